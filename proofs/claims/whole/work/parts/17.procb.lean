section
variable {p : Program} {l : Launch} {e : Env} {s : State} {m : MethodId} {args : Array Value} {below : List Frame} {meth : Method} {c : Code} 
variable {A : Nat → Prop} {D : va_G} {cA : Nat → ClassId} {tb : Nat} {ad : Nat → Nat}
def F_Pr_isEvenBranchTaken_25 (x1 : Int32) (y0 : Int32) (mu : Mu) : Int32 := (if x1 = 1 then (if (F_Fl_has 5 mu) = (0 : Int32) then 1 else 0) else (if x1 = 2 then (if (F_Fl_has 1 mu) = (0 : Int32) then 1 else 0) else (if x1 = 3 then (if (F_Fl_has 4 mu) = (0 : Int32) then 1 else 0) else (if x1 = 4 then (if (F_Fl_has 2 mu) = (0 : Int32) then 1 else 0) else (if x1 = 5 then (if (F_Fl_has 8 mu) = (0 : Int32) then 1 else 0) else (if x1 = 6 then y0 else (if x1 = 7 then (if (F_Fl_has 4 mu) = (0 : Int32) then (if y0 = (0 : Int32) then 0 else 1) else 0) else 1)))))))
set_option maxHeartbeats 4000000 in
set_option maxRecDepth 100000 in
theorem k_Pr_isEvenBranchTaken_25 (C : Cx cX3_isEvenBranchTaken 3 (some .boolean) wsX3_isEvenBranchTaken RX3 A D cA tb p s m args meth c) {mu nu : Mu} {x1 : Int32} {y0 : Int32} {H : Heap} {locs : List Loc} {ls : Array Slot} (w : Wd A D cA ad s mu nu H locs) (hl : lv_has ls 3 [(0, .ref (ad 9)), (1, .int x1)]) (hby0 : y0 = 0 ∨ y0 = 1) : W p l e { frames := 1, cells := 0, slots := 0, locals := 21 } s m args below meth c H locs 0 0 (QI A D cA ad below args s (F_Pr_isEvenBranchTaken_25 x1 y0 mu) mu nu) (F0 m 25 ls [.int y0]) := by
  have hx := C.1
  have hb := C.2.1
  have hts := C.2.2.2.2.2.1
  have hown := C.2.2.2.2.1
  unfold F_Pr_isEvenBranchTaken_25
  refine lv_istore_n (lv' := [(2, .int y0), (0, .ref (ad 9)), (1, .int x1)]) hx hb dX3_isEvenBranchTaken_25 rfl hl (by decide) rfl (fun ls hl => ?_)
  refine lv_iload_n hx hb dX3_isEvenBranchTaken_26 rfl (lv_at hl 2 rfl) ?_
  by_cases h27_1 : x1 = (1 : Int32)
  · rw [if_pos h27_1]
    refine lv_tableIn (off := 41) (tgt := 68) hx hb dX3_isEvenBranchTaken_27 (by rw [h27_1]; decide) (by rw [h27_1]; decide) (by rw [h27_1]; decide) (by decide) ?_
    refine lv_aload_n hx hb dX3_isEvenBranchTaken_68 rfl (lv_at hl 1 rfl) ?_
    refine gt_9_2 C (fun _ h => List.mem_cons_of_mem _ (List.mem_append_left _ (List.mem_append_right _ h))) (hts _ (List.mem_of_getElem? (i := 1) rfl)) w dX3_isEvenBranchTaken_69 ?_
    refine lv_iconst (v := 5) hx hb dX3_isEvenBranchTaken_72 (by decide) ?_
    refine kcI (k := 10) (ci := 2) (As := [.int 5]) (rest := []) C w rfl rfl (c_Fl_has l A D cA tb ad mu nu 5) (cwV 1 hts gX3_isEvenBranchTaken_X2_has rfl rfl rfl (by decide +kernel) ⟨Nat.le_of_ble_eq_true rfl, Nat.le_of_ble_eq_true rfl⟩) rfl rfl hl.1 (Nat.le_of_ble_eq_true rfl) dX3_isEvenBranchTaken_73 (fun H locs w => ?_)
    refine lv_if_ne (tgt := 83) hx hb dX3_isEvenBranchTaken_76 (by decide) (fun h76 => ?_) (fun h76 => ?_)
    · rw [if_neg h76]
      refine lv_iconst (v := 0) hx hb dX3_isEvenBranchTaken_83 (by decide) ?_
      exact retZ C w dX3_isEvenBranchTaken_84 (Or.inl rfl)
    · rw [if_pos h76]
      refine lv_iconst (v := 1) hx hb dX3_isEvenBranchTaken_79 (by decide) ?_
      refine lv_goto (tgt := 84) hx hb dX3_isEvenBranchTaken_80 (by decide) ?_
      exact retZ C w dX3_isEvenBranchTaken_84 (Or.inr rfl)
  · rw [if_neg h27_1]
    by_cases h27_2 : x1 = (2 : Int32)
    · rw [if_pos h27_2]
      refine lv_tableIn (off := 58) (tgt := 85) hx hb dX3_isEvenBranchTaken_27 (by rw [h27_2]; decide) (by rw [h27_2]; decide) (by rw [h27_2]; decide) (by decide) ?_
      refine lv_aload_n hx hb dX3_isEvenBranchTaken_85 rfl (lv_at hl 1 rfl) ?_
      refine gt_9_2 C (fun _ h => List.mem_cons_of_mem _ (List.mem_append_left _ (List.mem_append_right _ h))) (hts _ (List.mem_of_getElem? (i := 1) rfl)) w dX3_isEvenBranchTaken_86 ?_
      refine lv_iconst (v := 1) hx hb dX3_isEvenBranchTaken_89 (by decide) ?_
      refine kcI (k := 10) (ci := 2) (As := [.int 1]) (rest := []) C w rfl rfl (c_Fl_has l A D cA tb ad mu nu 1) (cwV 1 hts gX3_isEvenBranchTaken_X2_has rfl rfl rfl (by decide +kernel) ⟨Nat.le_of_ble_eq_true rfl, Nat.le_of_ble_eq_true rfl⟩) rfl rfl hl.1 (Nat.le_of_ble_eq_true rfl) dX3_isEvenBranchTaken_90 (fun H locs w => ?_)
      refine lv_if_ne (tgt := 100) hx hb dX3_isEvenBranchTaken_93 (by decide) (fun h93 => ?_) (fun h93 => ?_)
      · rw [if_neg h93]
        refine lv_iconst (v := 0) hx hb dX3_isEvenBranchTaken_100 (by decide) ?_
        exact retZ C w dX3_isEvenBranchTaken_101 (Or.inl rfl)
      · rw [if_pos h93]
        refine lv_iconst (v := 1) hx hb dX3_isEvenBranchTaken_96 (by decide) ?_
        refine lv_goto (tgt := 101) hx hb dX3_isEvenBranchTaken_97 (by decide) ?_
        exact retZ C w dX3_isEvenBranchTaken_101 (Or.inr rfl)
    · rw [if_neg h27_2]
      by_cases h27_3 : x1 = (3 : Int32)
      · rw [if_pos h27_3]
        refine lv_tableIn (off := 75) (tgt := 102) hx hb dX3_isEvenBranchTaken_27 (by rw [h27_3]; decide) (by rw [h27_3]; decide) (by rw [h27_3]; decide) (by decide) ?_
        refine lv_aload_n hx hb dX3_isEvenBranchTaken_102 rfl (lv_at hl 1 rfl) ?_
        refine gt_9_2 C (fun _ h => List.mem_cons_of_mem _ (List.mem_append_left _ (List.mem_append_right _ h))) (hts _ (List.mem_of_getElem? (i := 1) rfl)) w dX3_isEvenBranchTaken_103 ?_
        refine lv_iconst (v := 4) hx hb dX3_isEvenBranchTaken_106 (by decide) ?_
        refine kcI (k := 10) (ci := 2) (As := [.int 4]) (rest := []) C w rfl rfl (c_Fl_has l A D cA tb ad mu nu 4) (cwV 1 hts gX3_isEvenBranchTaken_X2_has rfl rfl rfl (by decide +kernel) ⟨Nat.le_of_ble_eq_true rfl, Nat.le_of_ble_eq_true rfl⟩) rfl rfl hl.1 (Nat.le_of_ble_eq_true rfl) dX3_isEvenBranchTaken_107 (fun H locs w => ?_)
        refine lv_if_ne (tgt := 117) hx hb dX3_isEvenBranchTaken_110 (by decide) (fun h110 => ?_) (fun h110 => ?_)
        · rw [if_neg h110]
          refine lv_iconst (v := 0) hx hb dX3_isEvenBranchTaken_117 (by decide) ?_
          exact retZ C w dX3_isEvenBranchTaken_118 (Or.inl rfl)
        · rw [if_pos h110]
          refine lv_iconst (v := 1) hx hb dX3_isEvenBranchTaken_113 (by decide) ?_
          refine lv_goto (tgt := 118) hx hb dX3_isEvenBranchTaken_114 (by decide) ?_
          exact retZ C w dX3_isEvenBranchTaken_118 (Or.inr rfl)
      · rw [if_neg h27_3]
        by_cases h27_4 : x1 = (4 : Int32)
        · rw [if_pos h27_4]
          refine lv_tableIn (off := 92) (tgt := 119) hx hb dX3_isEvenBranchTaken_27 (by rw [h27_4]; decide) (by rw [h27_4]; decide) (by rw [h27_4]; decide) (by decide) ?_
          refine lv_aload_n hx hb dX3_isEvenBranchTaken_119 rfl (lv_at hl 1 rfl) ?_
          refine gt_9_2 C (fun _ h => List.mem_cons_of_mem _ (List.mem_append_left _ (List.mem_append_right _ h))) (hts _ (List.mem_of_getElem? (i := 1) rfl)) w dX3_isEvenBranchTaken_120 ?_
          refine lv_iconst (v := 2) hx hb dX3_isEvenBranchTaken_123 (by decide) ?_
          refine kcI (k := 10) (ci := 2) (As := [.int 2]) (rest := []) C w rfl rfl (c_Fl_has l A D cA tb ad mu nu 2) (cwV 1 hts gX3_isEvenBranchTaken_X2_has rfl rfl rfl (by decide +kernel) ⟨Nat.le_of_ble_eq_true rfl, Nat.le_of_ble_eq_true rfl⟩) rfl rfl hl.1 (Nat.le_of_ble_eq_true rfl) dX3_isEvenBranchTaken_124 (fun H locs w => ?_)
          refine lv_if_ne (tgt := 134) hx hb dX3_isEvenBranchTaken_127 (by decide) (fun h127 => ?_) (fun h127 => ?_)
          · rw [if_neg h127]
            refine lv_iconst (v := 0) hx hb dX3_isEvenBranchTaken_134 (by decide) ?_
            exact retZ C w dX3_isEvenBranchTaken_135 (Or.inl rfl)
          · rw [if_pos h127]
            refine lv_iconst (v := 1) hx hb dX3_isEvenBranchTaken_130 (by decide) ?_
            refine lv_goto (tgt := 135) hx hb dX3_isEvenBranchTaken_131 (by decide) ?_
            exact retZ C w dX3_isEvenBranchTaken_135 (Or.inr rfl)
        · rw [if_neg h27_4]
          by_cases h27_5 : x1 = (5 : Int32)
          · rw [if_pos h27_5]
            refine lv_tableIn (off := 109) (tgt := 136) hx hb dX3_isEvenBranchTaken_27 (by rw [h27_5]; decide) (by rw [h27_5]; decide) (by rw [h27_5]; decide) (by decide) ?_
            refine lv_aload_n hx hb dX3_isEvenBranchTaken_136 rfl (lv_at hl 1 rfl) ?_
            refine gt_9_2 C (fun _ h => List.mem_cons_of_mem _ (List.mem_append_left _ (List.mem_append_right _ h))) (hts _ (List.mem_of_getElem? (i := 1) rfl)) w dX3_isEvenBranchTaken_137 ?_
            refine lv_bipush (v := 8) hx hb dX3_isEvenBranchTaken_140 (by decide) ?_
            refine kcI (k := 10) (ci := 2) (As := [.int 8]) (rest := []) C w rfl rfl (c_Fl_has l A D cA tb ad mu nu 8) (cwV 1 hts gX3_isEvenBranchTaken_X2_has rfl rfl rfl (by decide +kernel) ⟨Nat.le_of_ble_eq_true rfl, Nat.le_of_ble_eq_true rfl⟩) rfl rfl hl.1 (Nat.le_of_ble_eq_true rfl) dX3_isEvenBranchTaken_142 (fun H locs w => ?_)
            refine lv_if_ne (tgt := 152) hx hb dX3_isEvenBranchTaken_145 (by decide) (fun h145 => ?_) (fun h145 => ?_)
            · rw [if_neg h145]
              refine lv_iconst (v := 0) hx hb dX3_isEvenBranchTaken_152 (by decide) ?_
              exact retZ C w dX3_isEvenBranchTaken_153 (Or.inl rfl)
            · rw [if_pos h145]
              refine lv_iconst (v := 1) hx hb dX3_isEvenBranchTaken_148 (by decide) ?_
              refine lv_goto (tgt := 153) hx hb dX3_isEvenBranchTaken_149 (by decide) ?_
              exact retZ C w dX3_isEvenBranchTaken_153 (Or.inr rfl)
          · rw [if_neg h27_5]
            by_cases h27_6 : x1 = (6 : Int32)
            · rw [if_pos h27_6]
              refine lv_tableIn (off := 127) (tgt := 154) hx hb dX3_isEvenBranchTaken_27 (by rw [h27_6]; decide) (by rw [h27_6]; decide) (by rw [h27_6]; decide) (by decide) ?_
              refine lv_iload_n hx hb dX3_isEvenBranchTaken_154 rfl (lv_at hl 0 rfl) ?_
              exact retZ C w dX3_isEvenBranchTaken_155 hby0
            · rw [if_neg h27_6]
              by_cases h27_7 : x1 = (7 : Int32)
              · rw [if_pos h27_7]
                refine lv_tableIn (off := 129) (tgt := 156) hx hb dX3_isEvenBranchTaken_27 (by rw [h27_7]; decide) (by rw [h27_7]; decide) (by rw [h27_7]; decide) (by decide) ?_
                refine lv_aload_n hx hb dX3_isEvenBranchTaken_156 rfl (lv_at hl 1 rfl) ?_
                refine gt_9_2 C (fun _ h => List.mem_cons_of_mem _ (List.mem_append_left _ (List.mem_append_right _ h))) (hts _ (List.mem_of_getElem? (i := 1) rfl)) w dX3_isEvenBranchTaken_157 ?_
                refine lv_iconst (v := 4) hx hb dX3_isEvenBranchTaken_160 (by decide) ?_
                refine kcI (k := 10) (ci := 2) (As := [.int 4]) (rest := []) C w rfl rfl (c_Fl_has l A D cA tb ad mu nu 4) (cwV 1 hts gX3_isEvenBranchTaken_X2_has rfl rfl rfl (by decide +kernel) ⟨Nat.le_of_ble_eq_true rfl, Nat.le_of_ble_eq_true rfl⟩) rfl rfl hl.1 (Nat.le_of_ble_eq_true rfl) dX3_isEvenBranchTaken_161 (fun H locs w => ?_)
                refine lv_if_ne (tgt := 175) hx hb dX3_isEvenBranchTaken_164 (by decide) (fun h164 => ?_) (fun h164 => ?_)
                · rw [if_neg h164]
                  refine lv_iconst (v := 0) hx hb dX3_isEvenBranchTaken_175 (by decide) ?_
                  exact retZ C w dX3_isEvenBranchTaken_176 (Or.inl rfl)
                · rw [if_pos h164]
                  refine lv_iload_n hx hb dX3_isEvenBranchTaken_167 rfl (lv_at hl 0 rfl) ?_
                  refine lv_if_eq (tgt := 175) hx hb dX3_isEvenBranchTaken_168 (by decide) (fun h168 => ?_) (fun h168 => ?_)
                  · rw [if_pos h168]
                    refine lv_iconst (v := 0) hx hb dX3_isEvenBranchTaken_175 (by decide) ?_
                    exact retZ C w dX3_isEvenBranchTaken_176 (Or.inl rfl)
                  · rw [if_neg h168]
                    refine lv_iconst (v := 1) hx hb dX3_isEvenBranchTaken_171 (by decide) ?_
                    refine lv_goto (tgt := 176) hx hb dX3_isEvenBranchTaken_172 (by decide) ?_
                    exact retZ C w dX3_isEvenBranchTaken_176 (Or.inr rfl)
              · rw [if_neg h27_7]
                refine lv_tableOut (tgt := 177) hx hb dX3_isEvenBranchTaken_27 (by have := lv_neT h27_1 (a := 1) rfl; have := lv_neT h27_2 (a := 2) rfl; have := lv_neT h27_3 (a := 3) rfl; have := lv_neT h27_4 (a := 4) rfl; have := lv_neT h27_5 (a := 5) rfl; have := lv_neT h27_6 (a := 6) rfl; have := lv_neT h27_7 (a := 7) rfl; omega) (by decide) ?_
                refine lv_iconst (v := 1) hx hb dX3_isEvenBranchTaken_177 (by decide) ?_
                exact retZ C w dX3_isEvenBranchTaken_178 (Or.inr rfl)
def F_Pr_isEvenBranchTaken (x1 : Int32) (mu : Mu) : Int32 := (if (F_Fl_has 8 mu) = (F_Fl_has 2 mu) then F_Pr_isEvenBranchTaken_25 x1 1 mu else F_Pr_isEvenBranchTaken_25 x1 0 mu)
set_option maxHeartbeats 4000000 in
set_option maxRecDepth 100000 in
theorem k_Pr_isEvenBranchTaken (C : Cx cX3_isEvenBranchTaken 3 (some .boolean) wsX3_isEvenBranchTaken RX3 A D cA tb p s m args meth c) {mu nu : Mu} {x1 : Int32} {H : Heap} {locs : List Loc} {ls : Array Slot} (w : Wd A D cA ad s mu nu H locs) (hl : lv_has ls 3 [(0, .ref (ad 9)), (1, .int x1)]) : W p l e { frames := 1, cells := 0, slots := 0, locals := 21 } s m args below meth c H locs 0 0 (QI A D cA ad below args s (F_Pr_isEvenBranchTaken x1 mu) mu nu) (F0 m 0 ls []) := by
  have hx := C.1
  have hb := C.2.1
  have hts := C.2.2.2.2.2.1
  have hown := C.2.2.2.2.1
  unfold F_Pr_isEvenBranchTaken
  refine lv_aload_n hx hb dX3_isEvenBranchTaken_0 rfl (lv_at hl 0 rfl) ?_
  refine gt_9_2 C (fun _ h => List.mem_cons_of_mem _ (List.mem_append_left _ (List.mem_append_right _ h))) (hts _ (List.mem_of_getElem? (i := 1) rfl)) w dX3_isEvenBranchTaken_1 ?_
  refine lv_bipush (v := 8) hx hb dX3_isEvenBranchTaken_4 (by decide) ?_
  refine kcI (k := 10) (ci := 2) (As := [.int 8]) (rest := []) C w rfl rfl (c_Fl_has l A D cA tb ad mu nu 8) (cwV 1 hts gX3_isEvenBranchTaken_X2_has rfl rfl rfl (by decide +kernel) ⟨Nat.le_of_ble_eq_true rfl, Nat.le_of_ble_eq_true rfl⟩) rfl rfl hl.1 (Nat.le_of_ble_eq_true rfl) dX3_isEvenBranchTaken_6 (fun H locs w => ?_)
  refine lv_aload_n hx hb dX3_isEvenBranchTaken_9 rfl (lv_at hl 0 rfl) ?_
  refine gt_9_2 C (fun _ h => List.mem_cons_of_mem _ (List.mem_append_left _ (List.mem_append_right _ h))) (hts _ (List.mem_of_getElem? (i := 1) rfl)) w dX3_isEvenBranchTaken_10 ?_
  refine lv_iconst (v := 2) hx hb dX3_isEvenBranchTaken_13 (by decide) ?_
  refine kcI (k := 10) (ci := 2) (As := [.int 2]) (rest := [.int ((F_Fl_has 8 mu))]) C w rfl rfl (c_Fl_has l A D cA tb ad mu nu 2) (cwV 1 hts gX3_isEvenBranchTaken_X2_has rfl rfl rfl (by decide +kernel) ⟨Nat.le_of_ble_eq_true rfl, Nat.le_of_ble_eq_true rfl⟩) rfl rfl hl.1 (Nat.le_of_ble_eq_true rfl) dX3_isEvenBranchTaken_14 (fun H locs w => ?_)
  refine lv_icmp_ne (tgt := 24) hx hb dX3_isEvenBranchTaken_17 (by decide) (fun h17 => ?_) (fun h17 => ?_)
  · rw [if_neg h17]
    refine lv_iconst (v := 0) hx hb dX3_isEvenBranchTaken_24 (by decide) ?_
    exact k_Pr_isEvenBranchTaken_25 C w (lv_sub hl [0, 1] rfl) (Or.inl rfl)
  · rw [if_pos h17]
    refine lv_iconst (v := 1) hx hb dX3_isEvenBranchTaken_20 (by decide) ?_
    refine lv_goto (tgt := 25) hx hb dX3_isEvenBranchTaken_21 (by decide) ?_
    exact k_Pr_isEvenBranchTaken_25 C w (lv_sub hl [0, 1] rfl) (Or.inr rfl)
set_option maxHeartbeats 4000000 in
set_option maxRecDepth 100000 in
theorem c_Pr_isEvenBranchTaken (l : Launch) (A : Nat → Prop) (D : va_G) (cA : Nat → ClassId) (tb : Nat) (ad : Nat → Nat) (mu nu : Mu) (x1 : Int32) : Met l yX3_isEvenBranchTaken wsX3_isEvenBranchTaken ({ frames := 1, cells := 0, slots := 0, locals := 21 }) (va_Pc [.ref (ad 9), .int x1] (Pw A D cA tb ad mu nu)) (va_Qi (fun (r : Int32) (u : Mu × Mu) => r = F_Pr_isEvenBranchTaken x1 mu ∧ u = (mu, nu)) (Bw A D cA ad) A) 0 0 A := by
  refine Met.ofW (cc := cX3_isEvenBranchTaken) (maxL := 3) (ret := (some .boolean)) (by decide) rfl ?_
  intro p e s m args below meth c s₁ B hml hv
  obtain ⟨rfl, w0⟩ := hv
  have C : Cx cX3_isEvenBranchTaken 3 (some .boolean) wsX3_isEvenBranchTaken RX3 A D cA tb p s m _ meth c := ⟨B.exec, B.bytes, B.returns, hml, findClass_of_methodNamed B.named, atoms_spec (ws := wsX3_isEvenBranchTaken) B.pre, B.notSynchronized, w0.2.1, w0.2.2.2.1, w0.2.2.2.2⟩
  have hl := lv_entry ([.ref (ad 9), .int x1]) (n := 3) (Nat.le_of_ble_eq_true rfl)
  rw [lg_entry_eq]
  exact k_Pr_isEvenBranchTaken C w0.wd hl
def F_Pr_branch_40 (x1 : Int32) (x2 : Int32) (y0 : Int32) (mu : Mu) : Mu := (if (F_Pr_isEvenBranchTaken (x1 >>> (1 &&& 31)) mu) = y0 then mu else (ps mu 9 7 (((mu 9 7) + x2) &&& 65535)))
set_option maxHeartbeats 4000000 in
set_option maxRecDepth 100000 in
theorem k_Pr_branch_40 (C : Cx cX3_branch 4 none wsX3_branch RX3 A D cA tb p s m args meth c) {mu nu : Mu} {x1 : Int32} {x2 : Int32} {y0 : Int32} {H : Heap} {locs : List Loc} {ls : Array Slot} (w : Wd A D cA ad s mu nu H locs) (hl : lv_has ls 4 [(0, .ref (ad 9)), (1, .int x1), (2, .int x2)]) : W p l e { frames := 3, cells := 0, slots := 0, locals := 64 } s m args below meth c H locs 0 0 (QV A D cA ad below args s (F_Pr_branch_40 x1 x2 y0 mu) nu) (F0 m 40 ls [.int y0]) := by
  have hx := C.1
  have hb := C.2.1
  have hts := C.2.2.2.2.2.1
  have hown := C.2.2.2.2.1
  unfold F_Pr_branch_40
  refine lv_istore_n (lv' := [(3, .int y0), (0, .ref (ad 9)), (1, .int x1), (2, .int x2)]) hx hb dX3_branch_40 rfl hl (by decide) rfl (fun ls hl => ?_)
  refine lv_aload_n hx hb dX3_branch_41 rfl (lv_at hl 1 rfl) ?_
  refine lv_iload_n hx hb dX3_branch_42 rfl (lv_at hl 2 rfl) ?_
  refine lv_iconst (v := 1) hx hb dX3_branch_43 (by decide) ?_
  refine lv_ishr hx hb dX3_branch_44 ?_
  refine kcI (k := 9) (ci := 3) (As := [.int ((x1 >>> (1 &&& 31)))]) (rest := []) C w rfl rfl (c_Pr_isEvenBranchTaken l A D cA tb ad mu nu (x1 >>> (1 &&& 31))) (cwV 1 hts gX3_branch_X3_isEvenBranchTaken rfl rfl rfl (by decide +kernel) ⟨Nat.le_of_ble_eq_true rfl, Nat.le_of_ble_eq_true rfl⟩) rfl rfl hl.1 (Nat.le_of_ble_eq_true rfl) dX3_branch_45 (fun H locs w => ?_)
  refine lv_iload_n hx hb dX3_branch_48 rfl (lv_at hl 0 rfl) ?_
  refine lv_icmp_eq (tgt := 65) hx hb dX3_branch_49 (by decide) (fun h49 => ?_) (fun h49 => ?_)
  · rw [if_pos h49]
    exact retV C w dX3_branch_65
  · rw [if_neg h49]
    refine lv_aload_n hx hb dX3_branch_52 rfl (lv_at hl 1 rfl) ?_
    refine lv_aload_n hx hb dX3_branch_53 rfl (lv_at hl 1 rfl) ?_
    refine gt_9_7 C (fun _ h => List.mem_cons_of_mem _ (List.mem_append_left _ (List.mem_append_left _ (List.mem_append_left _ (List.mem_append_left _ (List.mem_append_right _ h)))))) (hts _ (List.mem_of_getElem? (i := 2) rfl)) w (v := (mu 9 7)) rfl dX3_branch_54 ?_
    refine lv_iload_n hx hb dX3_branch_57 rfl (lv_at hl 3 rfl) ?_
    refine lv_iadd hx hb dX3_branch_58 ?_
    refine lv_ldc (v := 65535) hx hb hown (hts _ (List.mem_of_getElem? (i := 3) rfl)) dX3_branch_59 ?_
    refine lv_iand hx hb dX3_branch_61 ?_
    refine pt_9_7 C (fun _ h => List.mem_cons_of_mem _ (List.mem_append_left _ (List.mem_append_left _ (List.mem_append_left _ (List.mem_append_left _ (List.mem_append_right _ h)))))) (hts _ (List.mem_of_getElem? (i := 2) rfl)) w dX3_branch_62 (fun H locs w => ?_)
    exact retV C w dX3_branch_65
def F_Pr_branch_12 (x1 : Int32) (y1 : Int32) (mu : Mu) : Mu := (if (x1 &&& 1) = (0 : Int32) then F_Pr_branch_40 x1 (F_Pr_signed y1 mu) 0 (ps mu 9 7 (((mu 9 7) + 1) &&& 65535)) else F_Pr_branch_40 x1 (F_Pr_signed y1 mu) 1 (ps mu 9 7 (((mu 9 7) + 1) &&& 65535)))
set_option maxHeartbeats 4000000 in
set_option maxRecDepth 100000 in
theorem k_Pr_branch_12 (C : Cx cX3_branch 4 none wsX3_branch RX3 A D cA tb p s m args meth c) {mu nu : Mu} {x1 : Int32} {y1 : Int32} {H : Heap} {locs : List Loc} {ls : Array Slot} (w : Wd A D cA ad s mu nu H locs) (hl : lv_has ls 4 [(0, .ref (ad 9)), (1, .int x1)]) : W p l e { frames := 3, cells := 0, slots := 0, locals := 64 } s m args below meth c H locs 0 0 (QV A D cA ad below args s (F_Pr_branch_12 x1 y1 mu) nu) (F0 m 12 ls [.int y1, .ref (ad 9)]) := by
  have hx := C.1
  have hb := C.2.1
  have hts := C.2.2.2.2.2.1
  have hown := C.2.2.2.2.1
  unfold F_Pr_branch_12
  refine kcI (k := 9) (ci := 3) (As := [.int y1]) (rest := []) C w rfl rfl (c_Pr_signed l A D cA tb ad mu nu y1) (cwV 1 hts gX3_branch_X3_signed rfl rfl rfl (by decide +kernel) ⟨Nat.le_of_ble_eq_true rfl, Nat.le_of_ble_eq_true rfl⟩) rfl rfl hl.1 (Nat.le_of_ble_eq_true rfl) dX3_branch_12 (fun H locs w => ?_)
  refine lv_istore_n (lv' := [(2, .int ((F_Pr_signed y1 mu))), (0, .ref (ad 9)), (1, .int x1)]) hx hb dX3_branch_15 rfl hl (by decide) rfl (fun ls hl => ?_)
  refine lv_aload_n hx hb dX3_branch_16 rfl (lv_at hl 1 rfl) ?_
  refine lv_aload_n hx hb dX3_branch_17 rfl (lv_at hl 1 rfl) ?_
  refine gt_9_7 C (fun _ h => List.mem_cons_of_mem _ (List.mem_append_left _ (List.mem_append_left _ (List.mem_append_left _ (List.mem_append_left _ (List.mem_append_right _ h)))))) (hts _ (List.mem_of_getElem? (i := 2) rfl)) w (v := (mu 9 7)) rfl dX3_branch_18 ?_
  refine lv_iconst (v := 1) hx hb dX3_branch_21 (by decide) ?_
  refine lv_iadd hx hb dX3_branch_22 ?_
  refine lv_ldc (v := 65535) hx hb hown (hts _ (List.mem_of_getElem? (i := 3) rfl)) dX3_branch_23 ?_
  refine lv_iand hx hb dX3_branch_25 ?_
  refine pt_9_7 C (fun _ h => List.mem_cons_of_mem _ (List.mem_append_left _ (List.mem_append_left _ (List.mem_append_left _ (List.mem_append_left _ (List.mem_append_right _ h)))))) (hts _ (List.mem_of_getElem? (i := 2) rfl)) w dX3_branch_26 (fun H locs w => ?_)
  refine lv_iload_n hx hb dX3_branch_29 rfl (lv_at hl 2 rfl) ?_
  refine lv_iconst (v := 1) hx hb dX3_branch_30 (by decide) ?_
  refine lv_iand hx hb dX3_branch_31 ?_
  refine lv_if_eq (tgt := 39) hx hb dX3_branch_32 (by decide) (fun h32 => ?_) (fun h32 => ?_)
  · rw [if_pos h32]
    refine lv_iconst (v := 0) hx hb dX3_branch_39 (by decide) ?_
    exact k_Pr_branch_40 C w (lv_sub hl [1, 2, 0] rfl)
  · rw [if_neg h32]
    refine lv_iconst (v := 1) hx hb dX3_branch_35 (by decide) ?_
    refine lv_goto (tgt := 40) hx hb dX3_branch_36 (by decide) ?_
    exact k_Pr_branch_40 C w (lv_sub hl [1, 2, 0] rfl)
def F_Pr_branch (x1 : Int32) (mu : Mu) : Mu := F_Pr_branch_12 x1 ((F_Bu_read (mu 9 7) mu).1) ((F_Bu_read (mu 9 7) mu).2)
set_option maxHeartbeats 4000000 in
set_option maxRecDepth 100000 in
theorem k_Pr_branch (C : Cx cX3_branch 4 none wsX3_branch RX3 A D cA tb p s m args meth c) {mu nu : Mu} {x1 : Int32} {H : Heap} {locs : List Loc} {ls : Array Slot} (w : Wd A D cA ad s mu nu H locs) (hl : lv_has ls 4 [(0, .ref (ad 9)), (1, .int x1)]) : W p l e { frames := 3, cells := 0, slots := 0, locals := 64 } s m args below meth c H locs 0 0 (QV A D cA ad below args s (F_Pr_branch x1 mu) nu) (F0 m 0 ls []) := by
  have hx := C.1
  have hb := C.2.1
  have hts := C.2.2.2.2.2.1
  have hown := C.2.2.2.2.1
  unfold F_Pr_branch
  refine lv_aload_n hx hb dX3_branch_0 rfl (lv_at hl 0 rfl) ?_
  refine lv_aload_n hx hb dX3_branch_1 rfl (lv_at hl 0 rfl) ?_
  refine gt_9_0 C (fun _ h => List.mem_cons_of_mem _ (List.mem_append_left _ (List.mem_append_left _ (List.mem_append_left _ (List.mem_append_left _ (List.mem_append_right _ h)))))) (hts _ (List.mem_of_getElem? (i := 1) rfl)) w dX3_branch_2 ?_
  refine lv_aload_n hx hb dX3_branch_5 rfl (lv_at hl 0 rfl) ?_
  refine gt_9_7 C (fun _ h => List.mem_cons_of_mem _ (List.mem_append_left _ (List.mem_append_left _ (List.mem_append_left _ (List.mem_append_left _ (List.mem_append_right _ h)))))) (hts _ (List.mem_of_getElem? (i := 2) rfl)) w (v := (mu 9 7)) rfl dX3_branch_6 ?_
  refine kcI (k := 6) (ci := 1) (As := [.int ((mu 9 7))]) (rest := [.ref (ad 9)]) C w rfl rfl (c_Bu_read l A D cA tb ad mu nu (mu 9 7)) (cwV 1 hts gX3_branch_X1_read rfl rfl rfl (by decide +kernel) ⟨Nat.le_of_ble_eq_true rfl, Nat.le_of_ble_eq_true rfl⟩) rfl rfl hl.1 (Nat.le_of_ble_eq_true rfl) dX3_branch_9 (fun H locs w => ?_)
  exact k_Pr_branch_12 C w (lv_sub hl [0, 1] rfl)
set_option maxHeartbeats 4000000 in
set_option maxRecDepth 100000 in
theorem c_Pr_branch (l : Launch) (A : Nat → Prop) (D : va_G) (cA : Nat → ClassId) (tb : Nat) (ad : Nat → Nat) (mu nu : Mu) (x1 : Int32) : Met l yX3_branch wsX3_branch ({ frames := 3, cells := 0, slots := 0, locals := 64 }) (va_Pc [.ref (ad 9), .int x1] (Pw A D cA tb ad mu nu)) (va_Qv (fun (u : Mu × Mu) => u = (F_Pr_branch x1 mu, nu)) (Bw A D cA ad) A) 0 0 A := by
  refine Met.ofW (cc := cX3_branch) (maxL := 4) (ret := none) (by decide) rfl ?_
  intro p e s m args below meth c s₁ B hml hv
  obtain ⟨rfl, w0⟩ := hv
  have C : Cx cX3_branch 4 none wsX3_branch RX3 A D cA tb p s m _ meth c := ⟨B.exec, B.bytes, B.returns, hml, findClass_of_methodNamed B.named, atoms_spec (ws := wsX3_branch) B.pre, B.notSynchronized, w0.2.1, w0.2.2.2.1, w0.2.2.2.2⟩
  have hl := lv_entry ([.ref (ad 9), .int x1]) (n := 4) (Nat.le_of_ble_eq_true rfl)
  rw [lg_entry_eq]
  exact k_Pr_branch C w0.wd hl
def F_Pr_doBetweenAccumulators_81 (y1 : Int32) (mu : Mu) : Mu := (ps mu 9 3 y1)
set_option maxHeartbeats 4000000 in
set_option maxRecDepth 100000 in
theorem k_Pr_doBetweenAccumulators_81 (C : Cx cX3_doBetweenAccumulators 2 none wsX3_doBetweenAccumulators RX3 A D cA tb p s m args meth c) {mu nu : Mu} {y1 : Int32} {H : Heap} {locs : List Loc} {ls : Array Slot} (w : Wd A D cA ad s mu nu H locs) (hl : lv_has ls 2 []) : W p l e { frames := 4, cells := 0, slots := 0, locals := 89 } s m args below meth c H locs 0 0 (QV A D cA ad below args s (F_Pr_doBetweenAccumulators_81 y1 mu) nu) (F0 m 81 ls [.int y1, .ref (ad 9)]) := by
  have hx := C.1
  have hb := C.2.1
  have hts := C.2.2.2.2.2.1
  have hown := C.2.2.2.2.1
  unfold F_Pr_doBetweenAccumulators_81
  refine pt_9_3 C (fun _ h => List.mem_cons_of_mem _ (List.mem_append_left _ (List.mem_append_left _ (List.mem_append_right _ h)))) (hts _ (List.mem_of_getElem? (i := 2) rfl)) w dX3_doBetweenAccumulators_81 (fun H locs w => ?_)
  refine lv_goto (tgt := 184) hx hb dX3_doBetweenAccumulators_84 (by decide) ?_
  exact retV C w dX3_doBetweenAccumulators_184
def F_Pr_doBetweenAccumulators_119 (y1 : Int32) (mu : Mu) : Mu := (ps mu 9 4 y1)
set_option maxHeartbeats 4000000 in
set_option maxRecDepth 100000 in
theorem k_Pr_doBetweenAccumulators_119 (C : Cx cX3_doBetweenAccumulators 2 none wsX3_doBetweenAccumulators RX3 A D cA tb p s m args meth c) {mu nu : Mu} {y1 : Int32} {H : Heap} {locs : List Loc} {ls : Array Slot} (w : Wd A D cA ad s mu nu H locs) (hl : lv_has ls 2 []) : W p l e { frames := 4, cells := 0, slots := 0, locals := 89 } s m args below meth c H locs 0 0 (QV A D cA ad below args s (F_Pr_doBetweenAccumulators_119 y1 mu) nu) (F0 m 119 ls [.int y1, .ref (ad 9)]) := by
  have hx := C.1
  have hb := C.2.1
  have hts := C.2.2.2.2.2.1
  have hown := C.2.2.2.2.1
  unfold F_Pr_doBetweenAccumulators_119
  refine pt_9_4 C (fun _ h => List.mem_cons_of_mem _ (List.mem_append_left _ (List.mem_append_left _ (List.mem_append_right _ h)))) (hts _ (List.mem_of_getElem? (i := 3) rfl)) w dX3_doBetweenAccumulators_119 (fun H locs w => ?_)
  refine lv_goto (tgt := 184) hx hb dX3_doBetweenAccumulators_122 (by decide) ?_
  exact retV C w dX3_doBetweenAccumulators_184
def F_Pr_doBetweenAccumulators_137 (y1 : Int32) (mu : Mu) : Mu := (ps mu 9 3 y1)
set_option maxHeartbeats 4000000 in
set_option maxRecDepth 100000 in
theorem k_Pr_doBetweenAccumulators_137 (C : Cx cX3_doBetweenAccumulators 2 none wsX3_doBetweenAccumulators RX3 A D cA tb p s m args meth c) {mu nu : Mu} {y1 : Int32} {H : Heap} {locs : List Loc} {ls : Array Slot} (w : Wd A D cA ad s mu nu H locs) (hl : lv_has ls 2 []) : W p l e { frames := 4, cells := 0, slots := 0, locals := 89 } s m args below meth c H locs 0 0 (QV A D cA ad below args s (F_Pr_doBetweenAccumulators_137 y1 mu) nu) (F0 m 137 ls [.int y1, .ref (ad 9)]) := by
  have hx := C.1
  have hb := C.2.1
  have hts := C.2.2.2.2.2.1
  have hown := C.2.2.2.2.1
  unfold F_Pr_doBetweenAccumulators_137
  refine pt_9_3 C (fun _ h => List.mem_cons_of_mem _ (List.mem_append_left _ (List.mem_append_left _ (List.mem_append_right _ h)))) (hts _ (List.mem_of_getElem? (i := 2) rfl)) w dX3_doBetweenAccumulators_137 (fun H locs w => ?_)
  refine lv_goto (tgt := 184) hx hb dX3_doBetweenAccumulators_140 (by decide) ?_
  exact retV C w dX3_doBetweenAccumulators_184
def F_Pr_doBetweenAccumulators_155 (y1 : Int32) (mu : Mu) : Mu := (ps mu 9 3 y1)
set_option maxHeartbeats 4000000 in
set_option maxRecDepth 100000 in
theorem k_Pr_doBetweenAccumulators_155 (C : Cx cX3_doBetweenAccumulators 2 none wsX3_doBetweenAccumulators RX3 A D cA tb p s m args meth c) {mu nu : Mu} {y1 : Int32} {H : Heap} {locs : List Loc} {ls : Array Slot} (w : Wd A D cA ad s mu nu H locs) (hl : lv_has ls 2 []) : W p l e { frames := 4, cells := 0, slots := 0, locals := 89 } s m args below meth c H locs 0 0 (QV A D cA ad below args s (F_Pr_doBetweenAccumulators_155 y1 mu) nu) (F0 m 155 ls [.int y1, .ref (ad 9)]) := by
  have hx := C.1
  have hb := C.2.1
  have hts := C.2.2.2.2.2.1
  have hown := C.2.2.2.2.1
  unfold F_Pr_doBetweenAccumulators_155
  refine pt_9_3 C (fun _ h => List.mem_cons_of_mem _ (List.mem_append_left _ (List.mem_append_left _ (List.mem_append_right _ h)))) (hts _ (List.mem_of_getElem? (i := 2) rfl)) w dX3_doBetweenAccumulators_155 (fun H locs w => ?_)
  refine lv_goto (tgt := 184) hx hb dX3_doBetweenAccumulators_158 (by decide) ?_
  exact retV C w dX3_doBetweenAccumulators_184
def F_Pr_doBetweenAccumulators_178 (y1 : Int32) (mu : Mu) : Mu := (ps mu 9 3 y1)
set_option maxHeartbeats 4000000 in
set_option maxRecDepth 100000 in
theorem k_Pr_doBetweenAccumulators_178 (C : Cx cX3_doBetweenAccumulators 2 none wsX3_doBetweenAccumulators RX3 A D cA tb p s m args meth c) {mu nu : Mu} {y1 : Int32} {H : Heap} {locs : List Loc} {ls : Array Slot} (w : Wd A D cA ad s mu nu H locs) (hl : lv_has ls 2 []) : W p l e { frames := 4, cells := 0, slots := 0, locals := 89 } s m args below meth c H locs 0 0 (QV A D cA ad below args s (F_Pr_doBetweenAccumulators_178 y1 mu) nu) (F0 m 178 ls [.int y1, .ref (ad 9)]) := by
  have hx := C.1
  have hb := C.2.1
  have hts := C.2.2.2.2.2.1
  have hown := C.2.2.2.2.1
  unfold F_Pr_doBetweenAccumulators_178
  refine pt_9_3 C (fun _ h => List.mem_cons_of_mem _ (List.mem_append_left _ (List.mem_append_left _ (List.mem_append_right _ h)))) (hts _ (List.mem_of_getElem? (i := 2) rfl)) w dX3_doBetweenAccumulators_178 (fun H locs w => ?_)
  refine lv_goto (tgt := 184) hx hb dX3_doBetweenAccumulators_181 (by decide) ?_
  exact retV C w dX3_doBetweenAccumulators_184
def F_Pr_doBetweenAccumulators (x1 : Int32) (mu : Mu) : Mu := (if x1 = 16 then F_Pr_doBetweenAccumulators_81 ((F_Ar_difference (mu 9 3) (mu 9 4) 0 mu).1) ((F_Ar_difference (mu 9 3) (mu 9 4) 0 mu).2) else (if x1 = 17 then (F_Ar_difference (mu 9 3) (mu 9 4) 0 mu).2 else (if x1 = 18 then mu else (if x1 = 19 then mu else (if x1 = 20 then mu else (if x1 = 21 then mu else (if x1 = 22 then F_Pr_doBetweenAccumulators_119 ((F_Ar_told (mu 9 3) mu).1) ((F_Ar_told (mu 9 3) mu).2) else (if x1 = 23 then F_Pr_doBetweenAccumulators_137 ((F_Ar_told (mu 9 4) mu).1) ((F_Ar_told (mu 9 4) mu).2) else (if x1 = 24 then mu else (if x1 = 25 then F_Pr_doBetweenAccumulators_155 ((F_Ar_decimalAdjusted (mu 9 3) mu).1) ((F_Ar_decimalAdjusted (mu 9 3) mu).2) else (if x1 = 26 then mu else (if x1 = 27 then F_Pr_doBetweenAccumulators_178 ((F_Ar_sum (mu 9 3) (mu 9 4) 0 mu).1) ((F_Ar_sum (mu 9 3) (mu 9 4) 0 mu).2) else mu))))))))))))
set_option maxHeartbeats 4000000 in
set_option maxRecDepth 100000 in
theorem k_Pr_doBetweenAccumulators (C : Cx cX3_doBetweenAccumulators 2 none wsX3_doBetweenAccumulators RX3 A D cA tb p s m args meth c) {mu nu : Mu} {x1 : Int32} {H : Heap} {locs : List Loc} {ls : Array Slot} (w : Wd A D cA ad s mu nu H locs) (hl : lv_has ls 2 [(0, .ref (ad 9)), (1, .int x1)]) : W p l e { frames := 4, cells := 0, slots := 0, locals := 89 } s m args below meth c H locs 0 0 (QV A D cA ad below args s (F_Pr_doBetweenAccumulators x1 mu) nu) (F0 m 0 ls []) := by
  have hx := C.1
  have hb := C.2.1
  have hts := C.2.2.2.2.2.1
  have hown := C.2.2.2.2.1
  unfold F_Pr_doBetweenAccumulators
  refine lv_iload_n hx hb dX3_doBetweenAccumulators_0 rfl (lv_at hl 1 rfl) ?_
  by_cases h1_16 : x1 = (16 : Int32)
  · rw [if_pos h1_16]
    refine lv_tableIn (off := 63) (tgt := 64) hx hb dX3_doBetweenAccumulators_1 (by rw [h1_16]; decide) (by rw [h1_16]; decide) (by rw [h1_16]; decide) (by decide) ?_
    refine lv_aload_n hx hb dX3_doBetweenAccumulators_64 rfl (lv_at hl 0 rfl) ?_
    refine lv_aload_n hx hb dX3_doBetweenAccumulators_65 rfl (lv_at hl 0 rfl) ?_
    refine gt_9_1 C (fun _ h => List.mem_cons_of_mem _ (List.mem_append_left _ (List.mem_append_left _ (List.mem_append_right _ h)))) (hts _ (List.mem_of_getElem? (i := 1) rfl)) w dX3_doBetweenAccumulators_66 ?_
    refine lv_aload_n hx hb dX3_doBetweenAccumulators_69 rfl (lv_at hl 0 rfl) ?_
    refine gt_9_3 C (fun _ h => List.mem_cons_of_mem _ (List.mem_append_left _ (List.mem_append_left _ (List.mem_append_right _ h)))) (hts _ (List.mem_of_getElem? (i := 2) rfl)) w (v := (mu 9 3)) rfl dX3_doBetweenAccumulators_70 ?_
    refine lv_aload_n hx hb dX3_doBetweenAccumulators_73 rfl (lv_at hl 0 rfl) ?_
    refine gt_9_4 C (fun _ h => List.mem_cons_of_mem _ (List.mem_append_left _ (List.mem_append_left _ (List.mem_append_right _ h)))) (hts _ (List.mem_of_getElem? (i := 3) rfl)) w (v := (mu 9 4)) rfl dX3_doBetweenAccumulators_74 ?_
    refine lv_iconst (v := 0) hx hb dX3_doBetweenAccumulators_77 (by decide) ?_
    refine kcI (k := 11) (ci := 0) (As := [.int ((mu 9 3)), .int ((mu 9 4)), .int 0]) (rest := [.ref (ad 9)]) C w rfl rfl (c_Ar_difference l A D cA tb ad mu nu (mu 9 3) (mu 9 4) 0) (cwV 3 hts gX3_doBetweenAccumulators_X0_difference rfl rfl rfl (by decide +kernel) ⟨Nat.le_of_ble_eq_true rfl, Nat.le_of_ble_eq_true rfl⟩) rfl rfl hl.1 (Nat.le_of_ble_eq_true rfl) dX3_doBetweenAccumulators_78 (fun H locs w => ?_)
    exact k_Pr_doBetweenAccumulators_81 C w (lv_sub hl [] rfl)
  · rw [if_neg h1_16]
    by_cases h1_17 : x1 = (17 : Int32)
    · rw [if_pos h1_17]
      refine lv_tableIn (off := 86) (tgt := 87) hx hb dX3_doBetweenAccumulators_1 (by rw [h1_17]; decide) (by rw [h1_17]; decide) (by rw [h1_17]; decide) (by decide) ?_
      refine lv_aload_n hx hb dX3_doBetweenAccumulators_87 rfl (lv_at hl 0 rfl) ?_
      refine gt_9_1 C (fun _ h => List.mem_cons_of_mem _ (List.mem_append_left _ (List.mem_append_left _ (List.mem_append_right _ h)))) (hts _ (List.mem_of_getElem? (i := 1) rfl)) w dX3_doBetweenAccumulators_88 ?_
      refine lv_aload_n hx hb dX3_doBetweenAccumulators_91 rfl (lv_at hl 0 rfl) ?_
      refine gt_9_3 C (fun _ h => List.mem_cons_of_mem _ (List.mem_append_left _ (List.mem_append_left _ (List.mem_append_right _ h)))) (hts _ (List.mem_of_getElem? (i := 2) rfl)) w (v := (mu 9 3)) rfl dX3_doBetweenAccumulators_92 ?_
      refine lv_aload_n hx hb dX3_doBetweenAccumulators_95 rfl (lv_at hl 0 rfl) ?_
      refine gt_9_4 C (fun _ h => List.mem_cons_of_mem _ (List.mem_append_left _ (List.mem_append_left _ (List.mem_append_right _ h)))) (hts _ (List.mem_of_getElem? (i := 3) rfl)) w (v := (mu 9 4)) rfl dX3_doBetweenAccumulators_96 ?_
      refine lv_iconst (v := 0) hx hb dX3_doBetweenAccumulators_99 (by decide) ?_
      refine kcI (k := 11) (ci := 0) (As := [.int ((mu 9 3)), .int ((mu 9 4)), .int 0]) (rest := []) C w rfl rfl (c_Ar_difference l A D cA tb ad mu nu (mu 9 3) (mu 9 4) 0) (cwV 3 hts gX3_doBetweenAccumulators_X0_difference rfl rfl rfl (by decide +kernel) ⟨Nat.le_of_ble_eq_true rfl, Nat.le_of_ble_eq_true rfl⟩) rfl rfl hl.1 (Nat.le_of_ble_eq_true rfl) dX3_doBetweenAccumulators_100 (fun H locs w => ?_)
      refine lv_pop hx hb dX3_doBetweenAccumulators_103 rfl ?_
      refine lv_goto (tgt := 184) hx hb dX3_doBetweenAccumulators_104 (by decide) ?_
      exact retV C w dX3_doBetweenAccumulators_184
    · rw [if_neg h1_17]
      by_cases h1_18 : x1 = (18 : Int32)
      · rw [if_pos h1_18]
        refine lv_tableIn (off := 183) (tgt := 184) hx hb dX3_doBetweenAccumulators_1 (by rw [h1_18]; decide) (by rw [h1_18]; decide) (by rw [h1_18]; decide) (by decide) ?_
        exact retV C w dX3_doBetweenAccumulators_184
      · rw [if_neg h1_18]
        by_cases h1_19 : x1 = (19 : Int32)
        · rw [if_pos h1_19]
          refine lv_tableIn (off := 183) (tgt := 184) hx hb dX3_doBetweenAccumulators_1 (by rw [h1_19]; decide) (by rw [h1_19]; decide) (by rw [h1_19]; decide) (by decide) ?_
          exact retV C w dX3_doBetweenAccumulators_184
        · rw [if_neg h1_19]
          by_cases h1_20 : x1 = (20 : Int32)
          · rw [if_pos h1_20]
            refine lv_tableIn (off := 183) (tgt := 184) hx hb dX3_doBetweenAccumulators_1 (by rw [h1_20]; decide) (by rw [h1_20]; decide) (by rw [h1_20]; decide) (by decide) ?_
            exact retV C w dX3_doBetweenAccumulators_184
          · rw [if_neg h1_20]
            by_cases h1_21 : x1 = (21 : Int32)
            · rw [if_pos h1_21]
              refine lv_tableIn (off := 183) (tgt := 184) hx hb dX3_doBetweenAccumulators_1 (by rw [h1_21]; decide) (by rw [h1_21]; decide) (by rw [h1_21]; decide) (by decide) ?_
              exact retV C w dX3_doBetweenAccumulators_184
            · rw [if_neg h1_21]
              by_cases h1_22 : x1 = (22 : Int32)
              · rw [if_pos h1_22]
                refine lv_tableIn (off := 106) (tgt := 107) hx hb dX3_doBetweenAccumulators_1 (by rw [h1_22]; decide) (by rw [h1_22]; decide) (by rw [h1_22]; decide) (by decide) ?_
                refine lv_aload_n hx hb dX3_doBetweenAccumulators_107 rfl (lv_at hl 0 rfl) ?_
                refine lv_aload_n hx hb dX3_doBetweenAccumulators_108 rfl (lv_at hl 0 rfl) ?_
                refine gt_9_1 C (fun _ h => List.mem_cons_of_mem _ (List.mem_append_left _ (List.mem_append_left _ (List.mem_append_right _ h)))) (hts _ (List.mem_of_getElem? (i := 1) rfl)) w dX3_doBetweenAccumulators_109 ?_
                refine lv_aload_n hx hb dX3_doBetweenAccumulators_112 rfl (lv_at hl 0 rfl) ?_
                refine gt_9_3 C (fun _ h => List.mem_cons_of_mem _ (List.mem_append_left _ (List.mem_append_left _ (List.mem_append_right _ h)))) (hts _ (List.mem_of_getElem? (i := 2) rfl)) w (v := (mu 9 3)) rfl dX3_doBetweenAccumulators_113 ?_
                refine kcI (k := 11) (ci := 0) (As := [.int ((mu 9 3))]) (rest := [.ref (ad 9)]) C w rfl rfl (c_Ar_told l A D cA tb ad mu nu (mu 9 3)) (cwV 1 hts gX3_doBetweenAccumulators_X0_told rfl rfl rfl (by decide +kernel) ⟨Nat.le_of_ble_eq_true rfl, Nat.le_of_ble_eq_true rfl⟩) rfl rfl hl.1 (Nat.le_of_ble_eq_true rfl) dX3_doBetweenAccumulators_116 (fun H locs w => ?_)
                exact k_Pr_doBetweenAccumulators_119 C w (lv_sub hl [] rfl)
              · rw [if_neg h1_22]
                by_cases h1_23 : x1 = (23 : Int32)
                · rw [if_pos h1_23]
                  refine lv_tableIn (off := 124) (tgt := 125) hx hb dX3_doBetweenAccumulators_1 (by rw [h1_23]; decide) (by rw [h1_23]; decide) (by rw [h1_23]; decide) (by decide) ?_
                  refine lv_aload_n hx hb dX3_doBetweenAccumulators_125 rfl (lv_at hl 0 rfl) ?_
                  refine lv_aload_n hx hb dX3_doBetweenAccumulators_126 rfl (lv_at hl 0 rfl) ?_
                  refine gt_9_1 C (fun _ h => List.mem_cons_of_mem _ (List.mem_append_left _ (List.mem_append_left _ (List.mem_append_right _ h)))) (hts _ (List.mem_of_getElem? (i := 1) rfl)) w dX3_doBetweenAccumulators_127 ?_
                  refine lv_aload_n hx hb dX3_doBetweenAccumulators_130 rfl (lv_at hl 0 rfl) ?_
                  refine gt_9_4 C (fun _ h => List.mem_cons_of_mem _ (List.mem_append_left _ (List.mem_append_left _ (List.mem_append_right _ h)))) (hts _ (List.mem_of_getElem? (i := 3) rfl)) w (v := (mu 9 4)) rfl dX3_doBetweenAccumulators_131 ?_
                  refine kcI (k := 11) (ci := 0) (As := [.int ((mu 9 4))]) (rest := [.ref (ad 9)]) C w rfl rfl (c_Ar_told l A D cA tb ad mu nu (mu 9 4)) (cwV 1 hts gX3_doBetweenAccumulators_X0_told rfl rfl rfl (by decide +kernel) ⟨Nat.le_of_ble_eq_true rfl, Nat.le_of_ble_eq_true rfl⟩) rfl rfl hl.1 (Nat.le_of_ble_eq_true rfl) dX3_doBetweenAccumulators_134 (fun H locs w => ?_)
                  exact k_Pr_doBetweenAccumulators_137 C w (lv_sub hl [] rfl)
                · rw [if_neg h1_23]
                  by_cases h1_24 : x1 = (24 : Int32)
                  · rw [if_pos h1_24]
                    refine lv_tableIn (off := 183) (tgt := 184) hx hb dX3_doBetweenAccumulators_1 (by rw [h1_24]; decide) (by rw [h1_24]; decide) (by rw [h1_24]; decide) (by decide) ?_
                    exact retV C w dX3_doBetweenAccumulators_184
                  · rw [if_neg h1_24]
                    by_cases h1_25 : x1 = (25 : Int32)
                    · rw [if_pos h1_25]
                      refine lv_tableIn (off := 142) (tgt := 143) hx hb dX3_doBetweenAccumulators_1 (by rw [h1_25]; decide) (by rw [h1_25]; decide) (by rw [h1_25]; decide) (by decide) ?_
                      refine lv_aload_n hx hb dX3_doBetweenAccumulators_143 rfl (lv_at hl 0 rfl) ?_
                      refine lv_aload_n hx hb dX3_doBetweenAccumulators_144 rfl (lv_at hl 0 rfl) ?_
                      refine gt_9_1 C (fun _ h => List.mem_cons_of_mem _ (List.mem_append_left _ (List.mem_append_left _ (List.mem_append_right _ h)))) (hts _ (List.mem_of_getElem? (i := 1) rfl)) w dX3_doBetweenAccumulators_145 ?_
                      refine lv_aload_n hx hb dX3_doBetweenAccumulators_148 rfl (lv_at hl 0 rfl) ?_
                      refine gt_9_3 C (fun _ h => List.mem_cons_of_mem _ (List.mem_append_left _ (List.mem_append_left _ (List.mem_append_right _ h)))) (hts _ (List.mem_of_getElem? (i := 2) rfl)) w (v := (mu 9 3)) rfl dX3_doBetweenAccumulators_149 ?_
                      refine kcI (k := 11) (ci := 0) (As := [.int ((mu 9 3))]) (rest := [.ref (ad 9)]) C w rfl rfl (c_Ar_decimalAdjusted l A D cA tb ad mu nu (mu 9 3)) (cwV 1 hts gX3_doBetweenAccumulators_X0_decimalAdjusted rfl rfl rfl (by decide +kernel) ⟨Nat.le_of_ble_eq_true rfl, Nat.le_of_ble_eq_true rfl⟩) rfl rfl hl.1 (Nat.le_of_ble_eq_true rfl) dX3_doBetweenAccumulators_152 (fun H locs w => ?_)
                      exact k_Pr_doBetweenAccumulators_155 C w (lv_sub hl [] rfl)
                    · rw [if_neg h1_25]
                      by_cases h1_26 : x1 = (26 : Int32)
                      · rw [if_pos h1_26]
                        refine lv_tableIn (off := 183) (tgt := 184) hx hb dX3_doBetweenAccumulators_1 (by rw [h1_26]; decide) (by rw [h1_26]; decide) (by rw [h1_26]; decide) (by decide) ?_
                        exact retV C w dX3_doBetweenAccumulators_184
                      · rw [if_neg h1_26]
                        by_cases h1_27 : x1 = (27 : Int32)
                        · rw [if_pos h1_27]
                          refine lv_tableIn (off := 160) (tgt := 161) hx hb dX3_doBetweenAccumulators_1 (by rw [h1_27]; decide) (by rw [h1_27]; decide) (by rw [h1_27]; decide) (by decide) ?_
                          refine lv_aload_n hx hb dX3_doBetweenAccumulators_161 rfl (lv_at hl 0 rfl) ?_
                          refine lv_aload_n hx hb dX3_doBetweenAccumulators_162 rfl (lv_at hl 0 rfl) ?_
                          refine gt_9_1 C (fun _ h => List.mem_cons_of_mem _ (List.mem_append_left _ (List.mem_append_left _ (List.mem_append_right _ h)))) (hts _ (List.mem_of_getElem? (i := 1) rfl)) w dX3_doBetweenAccumulators_163 ?_
                          refine lv_aload_n hx hb dX3_doBetweenAccumulators_166 rfl (lv_at hl 0 rfl) ?_
                          refine gt_9_3 C (fun _ h => List.mem_cons_of_mem _ (List.mem_append_left _ (List.mem_append_left _ (List.mem_append_right _ h)))) (hts _ (List.mem_of_getElem? (i := 2) rfl)) w (v := (mu 9 3)) rfl dX3_doBetweenAccumulators_167 ?_
                          refine lv_aload_n hx hb dX3_doBetweenAccumulators_170 rfl (lv_at hl 0 rfl) ?_
                          refine gt_9_4 C (fun _ h => List.mem_cons_of_mem _ (List.mem_append_left _ (List.mem_append_left _ (List.mem_append_right _ h)))) (hts _ (List.mem_of_getElem? (i := 3) rfl)) w (v := (mu 9 4)) rfl dX3_doBetweenAccumulators_171 ?_
                          refine lv_iconst (v := 0) hx hb dX3_doBetweenAccumulators_174 (by decide) ?_
                          refine kcI (k := 11) (ci := 0) (As := [.int ((mu 9 3)), .int ((mu 9 4)), .int 0]) (rest := [.ref (ad 9)]) C w rfl rfl (c_Ar_sum l A D cA tb ad mu nu (mu 9 3) (mu 9 4) 0) (cwV 3 hts gX3_doBetweenAccumulators_X0_sum rfl rfl rfl (by decide +kernel) ⟨Nat.le_of_ble_eq_true rfl, Nat.le_of_ble_eq_true rfl⟩) rfl rfl hl.1 (Nat.le_of_ble_eq_true rfl) dX3_doBetweenAccumulators_175 (fun H locs w => ?_)
                          exact k_Pr_doBetweenAccumulators_178 C w (lv_sub hl [] rfl)
                        · rw [if_neg h1_27]
                          refine lv_tableOut (tgt := 184) hx hb dX3_doBetweenAccumulators_1 (by have := lv_neT h1_16 (a := 16) rfl; have := lv_neT h1_17 (a := 17) rfl; have := lv_neT h1_18 (a := 18) rfl; have := lv_neT h1_19 (a := 19) rfl; have := lv_neT h1_20 (a := 20) rfl; have := lv_neT h1_21 (a := 21) rfl; have := lv_neT h1_22 (a := 22) rfl; have := lv_neT h1_23 (a := 23) rfl; have := lv_neT h1_24 (a := 24) rfl; have := lv_neT h1_25 (a := 25) rfl; have := lv_neT h1_26 (a := 26) rfl; have := lv_neT h1_27 (a := 27) rfl; omega) (by decide) ?_
                          exact retV C w dX3_doBetweenAccumulators_184
set_option maxHeartbeats 4000000 in
set_option maxRecDepth 100000 in
theorem c_Pr_doBetweenAccumulators (l : Launch) (A : Nat → Prop) (D : va_G) (cA : Nat → ClassId) (tb : Nat) (ad : Nat → Nat) (mu nu : Mu) (x1 : Int32) : Met l yX3_doBetweenAccumulators wsX3_doBetweenAccumulators ({ frames := 4, cells := 0, slots := 0, locals := 89 }) (va_Pc [.ref (ad 9), .int x1] (Pw A D cA tb ad mu nu)) (va_Qv (fun (u : Mu × Mu) => u = (F_Pr_doBetweenAccumulators x1 mu, nu)) (Bw A D cA ad) A) 0 0 A := by
  refine Met.ofW (cc := cX3_doBetweenAccumulators) (maxL := 2) (ret := none) (by decide) rfl ?_
  intro p e s m args below meth c s₁ B hml hv
  obtain ⟨rfl, w0⟩ := hv
  have C : Cx cX3_doBetweenAccumulators 2 none wsX3_doBetweenAccumulators RX3 A D cA tb p s m _ meth c := ⟨B.exec, B.bytes, B.returns, hml, findClass_of_methodNamed B.named, atoms_spec (ws := wsX3_doBetweenAccumulators) B.pre, B.notSynchronized, w0.2.1, w0.2.2.2.1, w0.2.2.2.2⟩
  have hl := lv_entry ([.ref (ad 9), .int x1]) (n := 2) (Nat.le_of_ble_eq_true rfl)
  rw [lg_entry_eq]
  exact k_Pr_doBetweenAccumulators C w0.wd hl
def F_Pr_countIndex_30 (y1 : Int32) (y2 : Int32) (mu : Mu) : Mu := (F_Fl_tell y1 y2 mu)
set_option maxHeartbeats 4000000 in
set_option maxRecDepth 100000 in
theorem k_Pr_countIndex_30 (C : Cx cX3_countIndex 2 none wsX3_countIndex RX3 A D cA tb p s m args meth c) {mu nu : Mu} {y1 : Int32} {y2 : Int32} {H : Heap} {locs : List Loc} {ls : Array Slot} (w : Wd A D cA ad s mu nu H locs) (hl : lv_has ls 2 []) : W p l e { frames := 1, cells := 0, slots := 0, locals := 22 } s m args below meth c H locs 0 0 (QV A D cA ad below args s (F_Pr_countIndex_30 y1 y2 mu) nu) (F0 m 30 ls [.int y2, .int y1, .ref (ad 10)]) := by
  have hx := C.1
  have hb := C.2.1
  have hts := C.2.2.2.2.2.1
  have hown := C.2.2.2.2.1
  unfold F_Pr_countIndex_30
  refine kcV (k := 10) (ci := 2) (As := [.int y1, .int y2]) (rest := []) C w rfl rfl (c_Fl_tell l A D cA tb ad mu nu y1 y2) (cwV 2 hts gX3_countIndex_X2_tell rfl rfl rfl (by decide +kernel) ⟨Nat.le_of_ble_eq_true rfl, Nat.le_of_ble_eq_true rfl⟩) rfl rfl hl.1 (Nat.le_of_ble_eq_true rfl) dX3_countIndex_30 (fun H locs w => ?_)
  exact retV C w dX3_countIndex_33
def F_Pr_countIndex (x1 : Int32) (mu : Mu) : Mu := (if (((mu 9 5) + x1) &&& 65535) = (0 : Int32) then F_Pr_countIndex_30 4 1 (ps mu 9 5 (((mu 9 5) + x1) &&& 65535)) else F_Pr_countIndex_30 4 0 (ps mu 9 5 (((mu 9 5) + x1) &&& 65535)))
set_option maxHeartbeats 4000000 in
set_option maxRecDepth 100000 in
theorem k_Pr_countIndex (C : Cx cX3_countIndex 2 none wsX3_countIndex RX3 A D cA tb p s m args meth c) {mu nu : Mu} {x1 : Int32} {H : Heap} {locs : List Loc} {ls : Array Slot} (w : Wd A D cA ad s mu nu H locs) (hl : lv_has ls 2 [(0, .ref (ad 9)), (1, .int x1)]) : W p l e { frames := 1, cells := 0, slots := 0, locals := 22 } s m args below meth c H locs 0 0 (QV A D cA ad below args s (F_Pr_countIndex x1 mu) nu) (F0 m 0 ls []) := by
  have hx := C.1
  have hb := C.2.1
  have hts := C.2.2.2.2.2.1
  have hown := C.2.2.2.2.1
  unfold F_Pr_countIndex
  refine lv_aload_n hx hb dX3_countIndex_0 rfl (lv_at hl 0 rfl) ?_
  refine lv_aload_n hx hb dX3_countIndex_1 rfl (lv_at hl 0 rfl) ?_
  refine gt_9_5 C (fun _ h => List.mem_cons_of_mem _ (List.mem_append_left _ (List.mem_append_right _ h))) (hts _ (List.mem_of_getElem? (i := 1) rfl)) w (v := (mu 9 5)) rfl dX3_countIndex_2 ?_
  refine lv_iload_n hx hb dX3_countIndex_5 rfl (lv_at hl 1 rfl) ?_
  refine lv_iadd hx hb dX3_countIndex_6 ?_
  refine lv_ldc (v := 65535) hx hb hown (hts _ (List.mem_of_getElem? (i := 2) rfl)) dX3_countIndex_7 ?_
  refine lv_iand hx hb dX3_countIndex_9 ?_
  refine pt_9_5 C (fun _ h => List.mem_cons_of_mem _ (List.mem_append_left _ (List.mem_append_right _ h))) (hts _ (List.mem_of_getElem? (i := 1) rfl)) w dX3_countIndex_10 (fun H locs w => ?_)
  refine lv_aload_n hx hb dX3_countIndex_13 rfl (lv_at hl 0 rfl) ?_
  refine gt_9_2 C (fun _ h => List.mem_cons_of_mem _ (List.mem_append_left _ (List.mem_append_right _ h))) (hts _ (List.mem_of_getElem? (i := 3) rfl)) w dX3_countIndex_14 ?_
  refine lv_iconst (v := 4) hx hb dX3_countIndex_17 (by decide) ?_
  refine lv_aload_n hx hb dX3_countIndex_18 rfl (lv_at hl 0 rfl) ?_
  refine gt_9_5 C (fun _ h => List.mem_cons_of_mem _ (List.mem_append_left _ (List.mem_append_right _ h))) (hts _ (List.mem_of_getElem? (i := 1) rfl)) w (v := (((mu 9 5) + x1) &&& 65535)) rfl dX3_countIndex_19 ?_
  refine lv_if_ne (tgt := 29) hx hb dX3_countIndex_22 (by decide) (fun h22 => ?_) (fun h22 => ?_)
  · rw [if_neg h22]
    refine lv_iconst (v := 0) hx hb dX3_countIndex_29 (by decide) ?_
    exact k_Pr_countIndex_30 C w (lv_sub hl [] rfl)
  · rw [if_pos h22]
    refine lv_iconst (v := 1) hx hb dX3_countIndex_25 (by decide) ?_
    refine lv_goto (tgt := 30) hx hb dX3_countIndex_26 (by decide) ?_
    exact k_Pr_countIndex_30 C w (lv_sub hl [] rfl)
set_option maxHeartbeats 4000000 in
set_option maxRecDepth 100000 in
theorem c_Pr_countIndex (l : Launch) (A : Nat → Prop) (D : va_G) (cA : Nat → ClassId) (tb : Nat) (ad : Nat → Nat) (mu nu : Mu) (x1 : Int32) : Met l yX3_countIndex wsX3_countIndex ({ frames := 1, cells := 0, slots := 0, locals := 22 }) (va_Pc [.ref (ad 9), .int x1] (Pw A D cA tb ad mu nu)) (va_Qv (fun (u : Mu × Mu) => u = (F_Pr_countIndex x1 mu, nu)) (Bw A D cA ad) A) 0 0 A := by
  refine Met.ofW (cc := cX3_countIndex) (maxL := 2) (ret := none) (by decide) rfl ?_
  intro p e s m args below meth c s₁ B hml hv
  obtain ⟨rfl, w0⟩ := hv
  have C : Cx cX3_countIndex 2 none wsX3_countIndex RX3 A D cA tb p s m _ meth c := ⟨B.exec, B.bytes, B.returns, hml, findClass_of_methodNamed B.named, atoms_spec (ws := wsX3_countIndex) B.pre, B.notSynchronized, w0.2.1, w0.2.2.2.1, w0.2.2.2.2⟩
  have hl := lv_entry ([.ref (ad 9), .int x1]) (n := 2) (Nat.le_of_ble_eq_true rfl)
  rw [lg_entry_eq]
  exact k_Pr_countIndex C w0.wd hl
def F_Pr_doFlagsAndIndex_116 (y1 : Int32) (y2 : Int32) (mu : Mu) : Mu := (F_Fl_tell y1 y2 mu)
set_option maxHeartbeats 4000000 in
set_option maxRecDepth 100000 in
theorem k_Pr_doFlagsAndIndex_116 (C : Cx cX3_doFlagsAndIndex 2 none wsX3_doFlagsAndIndex RX3 A D cA tb p s m args meth c) {mu nu : Mu} {y1 : Int32} {y2 : Int32} {H : Heap} {locs : List Loc} {ls : Array Slot} (w : Wd A D cA ad s mu nu H locs) (hl : lv_has ls 2 []) : W p l e { frames := 2, cells := 0, slots := 0, locals := 43 } s m args below meth c H locs 0 0 (QV A D cA ad below args s (F_Pr_doFlagsAndIndex_116 y1 y2 mu) nu) (F0 m 116 ls [.int y2, .int y1, .ref (ad 10)]) := by
  have hx := C.1
  have hb := C.2.1
  have hts := C.2.2.2.2.2.1
  have hown := C.2.2.2.2.1
  unfold F_Pr_doFlagsAndIndex_116
  refine kcV (k := 10) (ci := 2) (As := [.int y1, .int y2]) (rest := []) C w rfl rfl (c_Fl_tell l A D cA tb ad mu nu y1 y2) (cwV 2 hts gX3_doFlagsAndIndex_X2_tell rfl rfl rfl (by decide +kernel) ⟨Nat.le_of_ble_eq_true rfl, Nat.le_of_ble_eq_true rfl⟩) rfl rfl hl.1 (Nat.le_of_ble_eq_true rfl) dX3_doFlagsAndIndex_116 (fun H locs w => ?_)
  refine lv_goto (tgt := 167) hx hb dX3_doFlagsAndIndex_119 (by decide) ?_
  exact retV C w dX3_doFlagsAndIndex_167
def F_Pr_doFlagsAndIndex_100 (x1 : Int32) (mu : Mu) : Mu := (if x1 = (11 : Int32) then F_Pr_doFlagsAndIndex_116 2 1 mu else F_Pr_doFlagsAndIndex_116 2 0 mu)
set_option maxHeartbeats 4000000 in
set_option maxRecDepth 100000 in
theorem k_Pr_doFlagsAndIndex_100 (C : Cx cX3_doFlagsAndIndex 2 none wsX3_doFlagsAndIndex RX3 A D cA tb p s m args meth c) {mu nu : Mu} {x1 : Int32} {H : Heap} {locs : List Loc} {ls : Array Slot} (w : Wd A D cA ad s mu nu H locs) (hl : lv_has ls 2 [(0, .ref (ad 9)), (1, .int x1)]) : W p l e { frames := 2, cells := 0, slots := 0, locals := 43 } s m args below meth c H locs 0 0 (QV A D cA ad below args s (F_Pr_doFlagsAndIndex_100 x1 mu) nu) (F0 m 100 ls []) := by
  have hx := C.1
  have hb := C.2.1
  have hts := C.2.2.2.2.2.1
  have hown := C.2.2.2.2.1
  unfold F_Pr_doFlagsAndIndex_100
  refine lv_aload_n hx hb dX3_doFlagsAndIndex_100 rfl (lv_at hl 0 rfl) ?_
  refine gt_9_2 C (fun _ h => List.mem_cons_of_mem _ (List.mem_append_left _ (List.mem_append_right _ h))) (hts _ (List.mem_of_getElem? (i := 1) rfl)) w dX3_doFlagsAndIndex_101 ?_
  refine lv_iconst (v := 2) hx hb dX3_doFlagsAndIndex_104 (by decide) ?_
  refine lv_iload_n hx hb dX3_doFlagsAndIndex_105 rfl (lv_at hl 1 rfl) ?_
  refine lv_bipush (v := 11) hx hb dX3_doFlagsAndIndex_106 (by decide) ?_
  refine lv_icmp_ne (tgt := 115) hx hb dX3_doFlagsAndIndex_108 (by decide) (fun h108 => ?_) (fun h108 => ?_)
  · rw [if_neg h108]
    refine lv_iconst (v := 0) hx hb dX3_doFlagsAndIndex_115 (by decide) ?_
    exact k_Pr_doFlagsAndIndex_116 C w (lv_sub hl [] rfl)
  · rw [if_pos h108]
    refine lv_iconst (v := 1) hx hb dX3_doFlagsAndIndex_111 (by decide) ?_
    refine lv_goto (tgt := 116) hx hb dX3_doFlagsAndIndex_112 (by decide) ?_
    exact k_Pr_doFlagsAndIndex_116 C w (lv_sub hl [] rfl)
def F_Pr_doFlagsAndIndex_138 (y1 : Int32) (y2 : Int32) (mu : Mu) : Mu := (F_Fl_tell y1 y2 mu)
set_option maxHeartbeats 4000000 in
set_option maxRecDepth 100000 in
theorem k_Pr_doFlagsAndIndex_138 (C : Cx cX3_doFlagsAndIndex 2 none wsX3_doFlagsAndIndex RX3 A D cA tb p s m args meth c) {mu nu : Mu} {y1 : Int32} {y2 : Int32} {H : Heap} {locs : List Loc} {ls : Array Slot} (w : Wd A D cA ad s mu nu H locs) (hl : lv_has ls 2 []) : W p l e { frames := 2, cells := 0, slots := 0, locals := 43 } s m args below meth c H locs 0 0 (QV A D cA ad below args s (F_Pr_doFlagsAndIndex_138 y1 y2 mu) nu) (F0 m 138 ls [.int y2, .int y1, .ref (ad 10)]) := by
  have hx := C.1
  have hb := C.2.1
  have hts := C.2.2.2.2.2.1
  have hown := C.2.2.2.2.1
  unfold F_Pr_doFlagsAndIndex_138
  refine kcV (k := 10) (ci := 2) (As := [.int y1, .int y2]) (rest := []) C w rfl rfl (c_Fl_tell l A D cA tb ad mu nu y1 y2) (cwV 2 hts gX3_doFlagsAndIndex_X2_tell rfl rfl rfl (by decide +kernel) ⟨Nat.le_of_ble_eq_true rfl, Nat.le_of_ble_eq_true rfl⟩) rfl rfl hl.1 (Nat.le_of_ble_eq_true rfl) dX3_doFlagsAndIndex_138 (fun H locs w => ?_)
  refine lv_goto (tgt := 167) hx hb dX3_doFlagsAndIndex_141 (by decide) ?_
  exact retV C w dX3_doFlagsAndIndex_167
def F_Pr_doFlagsAndIndex_122 (x1 : Int32) (mu : Mu) : Mu := (if x1 = (13 : Int32) then F_Pr_doFlagsAndIndex_138 1 1 mu else F_Pr_doFlagsAndIndex_138 1 0 mu)
set_option maxHeartbeats 4000000 in
set_option maxRecDepth 100000 in
theorem k_Pr_doFlagsAndIndex_122 (C : Cx cX3_doFlagsAndIndex 2 none wsX3_doFlagsAndIndex RX3 A D cA tb p s m args meth c) {mu nu : Mu} {x1 : Int32} {H : Heap} {locs : List Loc} {ls : Array Slot} (w : Wd A D cA ad s mu nu H locs) (hl : lv_has ls 2 [(0, .ref (ad 9)), (1, .int x1)]) : W p l e { frames := 2, cells := 0, slots := 0, locals := 43 } s m args below meth c H locs 0 0 (QV A D cA ad below args s (F_Pr_doFlagsAndIndex_122 x1 mu) nu) (F0 m 122 ls []) := by
  have hx := C.1
  have hb := C.2.1
  have hts := C.2.2.2.2.2.1
  have hown := C.2.2.2.2.1
  unfold F_Pr_doFlagsAndIndex_122
  refine lv_aload_n hx hb dX3_doFlagsAndIndex_122 rfl (lv_at hl 0 rfl) ?_
  refine gt_9_2 C (fun _ h => List.mem_cons_of_mem _ (List.mem_append_left _ (List.mem_append_right _ h))) (hts _ (List.mem_of_getElem? (i := 1) rfl)) w dX3_doFlagsAndIndex_123 ?_
  refine lv_iconst (v := 1) hx hb dX3_doFlagsAndIndex_126 (by decide) ?_
  refine lv_iload_n hx hb dX3_doFlagsAndIndex_127 rfl (lv_at hl 1 rfl) ?_
  refine lv_bipush (v := 13) hx hb dX3_doFlagsAndIndex_128 (by decide) ?_
  refine lv_icmp_ne (tgt := 137) hx hb dX3_doFlagsAndIndex_130 (by decide) (fun h130 => ?_) (fun h130 => ?_)
  · rw [if_neg h130]
    refine lv_iconst (v := 0) hx hb dX3_doFlagsAndIndex_137 (by decide) ?_
    exact k_Pr_doFlagsAndIndex_138 C w (lv_sub hl [] rfl)
  · rw [if_pos h130]
    refine lv_iconst (v := 1) hx hb dX3_doFlagsAndIndex_133 (by decide) ?_
    refine lv_goto (tgt := 138) hx hb dX3_doFlagsAndIndex_134 (by decide) ?_
    exact k_Pr_doFlagsAndIndex_138 C w (lv_sub hl [] rfl)
def F_Pr_doFlagsAndIndex_161 (y1 : Int32) (y2 : Int32) (mu : Mu) : Mu := (F_Fl_tell y1 y2 mu)
set_option maxHeartbeats 4000000 in
set_option maxRecDepth 100000 in
theorem k_Pr_doFlagsAndIndex_161 (C : Cx cX3_doFlagsAndIndex 2 none wsX3_doFlagsAndIndex RX3 A D cA tb p s m args meth c) {mu nu : Mu} {y1 : Int32} {y2 : Int32} {H : Heap} {locs : List Loc} {ls : Array Slot} (w : Wd A D cA ad s mu nu H locs) (hl : lv_has ls 2 []) : W p l e { frames := 2, cells := 0, slots := 0, locals := 43 } s m args below meth c H locs 0 0 (QV A D cA ad below args s (F_Pr_doFlagsAndIndex_161 y1 y2 mu) nu) (F0 m 161 ls [.int y2, .int y1, .ref (ad 10)]) := by
  have hx := C.1
  have hb := C.2.1
  have hts := C.2.2.2.2.2.1
  have hown := C.2.2.2.2.1
  unfold F_Pr_doFlagsAndIndex_161
  refine kcV (k := 10) (ci := 2) (As := [.int y1, .int y2]) (rest := []) C w rfl rfl (c_Fl_tell l A D cA tb ad mu nu y1 y2) (cwV 2 hts gX3_doFlagsAndIndex_X2_tell rfl rfl rfl (by decide +kernel) ⟨Nat.le_of_ble_eq_true rfl, Nat.le_of_ble_eq_true rfl⟩) rfl rfl hl.1 (Nat.le_of_ble_eq_true rfl) dX3_doFlagsAndIndex_161 (fun H locs w => ?_)
  refine lv_goto (tgt := 167) hx hb dX3_doFlagsAndIndex_164 (by decide) ?_
  exact retV C w dX3_doFlagsAndIndex_167
def F_Pr_doFlagsAndIndex_144 (x1 : Int32) (mu : Mu) : Mu := (if x1 = (15 : Int32) then F_Pr_doFlagsAndIndex_161 16 1 mu else F_Pr_doFlagsAndIndex_161 16 0 mu)
set_option maxHeartbeats 4000000 in
set_option maxRecDepth 100000 in
theorem k_Pr_doFlagsAndIndex_144 (C : Cx cX3_doFlagsAndIndex 2 none wsX3_doFlagsAndIndex RX3 A D cA tb p s m args meth c) {mu nu : Mu} {x1 : Int32} {H : Heap} {locs : List Loc} {ls : Array Slot} (w : Wd A D cA ad s mu nu H locs) (hl : lv_has ls 2 [(0, .ref (ad 9)), (1, .int x1)]) : W p l e { frames := 2, cells := 0, slots := 0, locals := 43 } s m args below meth c H locs 0 0 (QV A D cA ad below args s (F_Pr_doFlagsAndIndex_144 x1 mu) nu) (F0 m 144 ls []) := by
  have hx := C.1
  have hb := C.2.1
  have hts := C.2.2.2.2.2.1
  have hown := C.2.2.2.2.1
  unfold F_Pr_doFlagsAndIndex_144
  refine lv_aload_n hx hb dX3_doFlagsAndIndex_144 rfl (lv_at hl 0 rfl) ?_
  refine gt_9_2 C (fun _ h => List.mem_cons_of_mem _ (List.mem_append_left _ (List.mem_append_right _ h))) (hts _ (List.mem_of_getElem? (i := 1) rfl)) w dX3_doFlagsAndIndex_145 ?_
  refine lv_bipush (v := 16) hx hb dX3_doFlagsAndIndex_148 (by decide) ?_
  refine lv_iload_n hx hb dX3_doFlagsAndIndex_150 rfl (lv_at hl 1 rfl) ?_
  refine lv_bipush (v := 15) hx hb dX3_doFlagsAndIndex_151 (by decide) ?_
  refine lv_icmp_ne (tgt := 160) hx hb dX3_doFlagsAndIndex_153 (by decide) (fun h153 => ?_) (fun h153 => ?_)
  · rw [if_neg h153]
    refine lv_iconst (v := 0) hx hb dX3_doFlagsAndIndex_160 (by decide) ?_
    exact k_Pr_doFlagsAndIndex_161 C w (lv_sub hl [] rfl)
  · rw [if_pos h153]
    refine lv_iconst (v := 1) hx hb dX3_doFlagsAndIndex_156 (by decide) ?_
    refine lv_goto (tgt := 161) hx hb dX3_doFlagsAndIndex_157 (by decide) ?_
    exact k_Pr_doFlagsAndIndex_161 C w (lv_sub hl [] rfl)
def F_Pr_doFlagsAndIndex (x1 : Int32) (mu : Mu) : Mu := (if x1 = 6 then (F_Fl_takeByte (mu 9 3) mu) else (if x1 = 7 then (ps mu 9 3 (F_Fl_asByte mu)) else (if x1 = 8 then (F_Pr_countIndex 1 mu) else (if x1 = 9 then (F_Pr_countIndex (-1 : Int32) mu) else (if x1 = 10 then F_Pr_doFlagsAndIndex_100 x1 mu else (if x1 = 11 then F_Pr_doFlagsAndIndex_100 x1 mu else (if x1 = 12 then F_Pr_doFlagsAndIndex_122 x1 mu else (if x1 = 13 then F_Pr_doFlagsAndIndex_122 x1 mu else (if x1 = 14 then F_Pr_doFlagsAndIndex_144 x1 mu else (if x1 = 15 then F_Pr_doFlagsAndIndex_144 x1 mu else mu))))))))))
set_option maxHeartbeats 4000000 in
set_option maxRecDepth 100000 in
theorem k_Pr_doFlagsAndIndex (C : Cx cX3_doFlagsAndIndex 2 none wsX3_doFlagsAndIndex RX3 A D cA tb p s m args meth c) {mu nu : Mu} {x1 : Int32} {H : Heap} {locs : List Loc} {ls : Array Slot} (w : Wd A D cA ad s mu nu H locs) (hl : lv_has ls 2 [(0, .ref (ad 9)), (1, .int x1)]) : W p l e { frames := 2, cells := 0, slots := 0, locals := 43 } s m args below meth c H locs 0 0 (QV A D cA ad below args s (F_Pr_doFlagsAndIndex x1 mu) nu) (F0 m 0 ls []) := by
  have hx := C.1
  have hb := C.2.1
  have hts := C.2.2.2.2.2.1
  have hown := C.2.2.2.2.1
  unfold F_Pr_doFlagsAndIndex
  refine lv_iload_n hx hb dX3_doFlagsAndIndex_0 rfl (lv_at hl 1 rfl) ?_
  by_cases h1_6 : x1 = (6 : Int32)
  · rw [if_pos h1_6]
    refine lv_tableIn (off := 55) (tgt := 56) hx hb dX3_doFlagsAndIndex_1 (by rw [h1_6]; decide) (by rw [h1_6]; decide) (by rw [h1_6]; decide) (by decide) ?_
    refine lv_aload_n hx hb dX3_doFlagsAndIndex_56 rfl (lv_at hl 0 rfl) ?_
    refine gt_9_2 C (fun _ h => List.mem_cons_of_mem _ (List.mem_append_left _ (List.mem_append_right _ h))) (hts _ (List.mem_of_getElem? (i := 1) rfl)) w dX3_doFlagsAndIndex_57 ?_
    refine lv_aload_n hx hb dX3_doFlagsAndIndex_60 rfl (lv_at hl 0 rfl) ?_
    refine gt_9_3 C (fun _ h => List.mem_cons_of_mem _ (List.mem_append_left _ (List.mem_append_right _ h))) (hts _ (List.mem_of_getElem? (i := 2) rfl)) w (v := (mu 9 3)) rfl dX3_doFlagsAndIndex_61 ?_
    refine kcV (k := 10) (ci := 2) (As := [.int ((mu 9 3))]) (rest := []) C w rfl rfl (c_Fl_takeByte l A D cA tb ad mu nu (mu 9 3)) (cwV 1 hts gX3_doFlagsAndIndex_X2_takeByte rfl rfl rfl (by decide +kernel) ⟨Nat.le_of_ble_eq_true rfl, Nat.le_of_ble_eq_true rfl⟩) rfl rfl hl.1 (Nat.le_of_ble_eq_true rfl) dX3_doFlagsAndIndex_64 (fun H locs w => ?_)
    refine lv_goto (tgt := 167) hx hb dX3_doFlagsAndIndex_67 (by decide) ?_
    exact retV C w dX3_doFlagsAndIndex_167
  · rw [if_neg h1_6]
    by_cases h1_7 : x1 = (7 : Int32)
    · rw [if_pos h1_7]
      refine lv_tableIn (off := 69) (tgt := 70) hx hb dX3_doFlagsAndIndex_1 (by rw [h1_7]; decide) (by rw [h1_7]; decide) (by rw [h1_7]; decide) (by decide) ?_
      refine lv_aload_n hx hb dX3_doFlagsAndIndex_70 rfl (lv_at hl 0 rfl) ?_
      refine lv_aload_n hx hb dX3_doFlagsAndIndex_71 rfl (lv_at hl 0 rfl) ?_
      refine gt_9_2 C (fun _ h => List.mem_cons_of_mem _ (List.mem_append_left _ (List.mem_append_right _ h))) (hts _ (List.mem_of_getElem? (i := 1) rfl)) w dX3_doFlagsAndIndex_72 ?_
      refine kcI (k := 10) (ci := 2) (As := []) (rest := [.ref (ad 9)]) C w rfl rfl (c_Fl_asByte l A D cA tb ad mu nu) (cwV 0 hts gX3_doFlagsAndIndex_X2_asByte rfl rfl rfl (by decide +kernel) ⟨Nat.le_of_ble_eq_true rfl, Nat.le_of_ble_eq_true rfl⟩) rfl rfl hl.1 (Nat.le_of_ble_eq_true rfl) dX3_doFlagsAndIndex_75 (fun H locs w => ?_)
      refine pt_9_3 C (fun _ h => List.mem_cons_of_mem _ (List.mem_append_left _ (List.mem_append_right _ h))) (hts _ (List.mem_of_getElem? (i := 2) rfl)) w dX3_doFlagsAndIndex_78 (fun H locs w => ?_)
      refine lv_goto (tgt := 167) hx hb dX3_doFlagsAndIndex_81 (by decide) ?_
      exact retV C w dX3_doFlagsAndIndex_167
    · rw [if_neg h1_7]
      by_cases h1_8 : x1 = (8 : Int32)
      · rw [if_pos h1_8]
        refine lv_tableIn (off := 83) (tgt := 84) hx hb dX3_doFlagsAndIndex_1 (by rw [h1_8]; decide) (by rw [h1_8]; decide) (by rw [h1_8]; decide) (by decide) ?_
        refine lv_aload_n hx hb dX3_doFlagsAndIndex_84 rfl (lv_at hl 0 rfl) ?_
        refine lv_iconst (v := 1) hx hb dX3_doFlagsAndIndex_85 (by decide) ?_
        refine kcV (k := 9) (ci := 3) (As := [.int 1]) (rest := []) C w rfl rfl (c_Pr_countIndex l A D cA tb ad mu nu 1) (cwV 1 hts gX3_doFlagsAndIndex_X3_countIndex rfl rfl rfl (by decide +kernel) ⟨Nat.le_of_ble_eq_true rfl, Nat.le_of_ble_eq_true rfl⟩) rfl rfl hl.1 (Nat.le_of_ble_eq_true rfl) dX3_doFlagsAndIndex_86 (fun H locs w => ?_)
        refine lv_goto (tgt := 167) hx hb dX3_doFlagsAndIndex_89 (by decide) ?_
        exact retV C w dX3_doFlagsAndIndex_167
      · rw [if_neg h1_8]
        by_cases h1_9 : x1 = (9 : Int32)
        · rw [if_pos h1_9]
          refine lv_tableIn (off := 91) (tgt := 92) hx hb dX3_doFlagsAndIndex_1 (by rw [h1_9]; decide) (by rw [h1_9]; decide) (by rw [h1_9]; decide) (by decide) ?_
          refine lv_aload_n hx hb dX3_doFlagsAndIndex_92 rfl (lv_at hl 0 rfl) ?_
          refine lv_iconst (v := (-1 : Int32)) hx hb dX3_doFlagsAndIndex_93 (by decide) ?_
          refine kcV (k := 9) (ci := 3) (As := [.int ((-1 : Int32))]) (rest := []) C w rfl rfl (c_Pr_countIndex l A D cA tb ad mu nu (-1 : Int32)) (cwV 1 hts gX3_doFlagsAndIndex_X3_countIndex rfl rfl rfl (by decide +kernel) ⟨Nat.le_of_ble_eq_true rfl, Nat.le_of_ble_eq_true rfl⟩) rfl rfl hl.1 (Nat.le_of_ble_eq_true rfl) dX3_doFlagsAndIndex_94 (fun H locs w => ?_)
          refine lv_goto (tgt := 167) hx hb dX3_doFlagsAndIndex_97 (by decide) ?_
          exact retV C w dX3_doFlagsAndIndex_167
        · rw [if_neg h1_9]
          by_cases h1_10 : x1 = (10 : Int32)
          · rw [if_pos h1_10]
            refine lv_tableIn (off := 99) (tgt := 100) hx hb dX3_doFlagsAndIndex_1 (by rw [h1_10]; decide) (by rw [h1_10]; decide) (by rw [h1_10]; decide) (by decide) ?_
            exact k_Pr_doFlagsAndIndex_100 C w (lv_sub hl [0, 1] rfl)
          · rw [if_neg h1_10]
            by_cases h1_11 : x1 = (11 : Int32)
            · rw [if_pos h1_11]
              refine lv_tableIn (off := 99) (tgt := 100) hx hb dX3_doFlagsAndIndex_1 (by rw [h1_11]; decide) (by rw [h1_11]; decide) (by rw [h1_11]; decide) (by decide) ?_
              exact k_Pr_doFlagsAndIndex_100 C w (lv_sub hl [0, 1] rfl)
            · rw [if_neg h1_11]
              by_cases h1_12 : x1 = (12 : Int32)
              · rw [if_pos h1_12]
                refine lv_tableIn (off := 121) (tgt := 122) hx hb dX3_doFlagsAndIndex_1 (by rw [h1_12]; decide) (by rw [h1_12]; decide) (by rw [h1_12]; decide) (by decide) ?_
                exact k_Pr_doFlagsAndIndex_122 C w (lv_sub hl [0, 1] rfl)
              · rw [if_neg h1_12]
                by_cases h1_13 : x1 = (13 : Int32)
                · rw [if_pos h1_13]
                  refine lv_tableIn (off := 121) (tgt := 122) hx hb dX3_doFlagsAndIndex_1 (by rw [h1_13]; decide) (by rw [h1_13]; decide) (by rw [h1_13]; decide) (by decide) ?_
                  exact k_Pr_doFlagsAndIndex_122 C w (lv_sub hl [0, 1] rfl)
                · rw [if_neg h1_13]
                  by_cases h1_14 : x1 = (14 : Int32)
                  · rw [if_pos h1_14]
                    refine lv_tableIn (off := 143) (tgt := 144) hx hb dX3_doFlagsAndIndex_1 (by rw [h1_14]; decide) (by rw [h1_14]; decide) (by rw [h1_14]; decide) (by decide) ?_
                    exact k_Pr_doFlagsAndIndex_144 C w (lv_sub hl [0, 1] rfl)
                  · rw [if_neg h1_14]
                    by_cases h1_15 : x1 = (15 : Int32)
                    · rw [if_pos h1_15]
                      refine lv_tableIn (off := 143) (tgt := 144) hx hb dX3_doFlagsAndIndex_1 (by rw [h1_15]; decide) (by rw [h1_15]; decide) (by rw [h1_15]; decide) (by decide) ?_
                      exact k_Pr_doFlagsAndIndex_144 C w (lv_sub hl [0, 1] rfl)
                    · rw [if_neg h1_15]
                      refine lv_tableOut (tgt := 167) hx hb dX3_doFlagsAndIndex_1 (by have := lv_neT h1_6 (a := 6) rfl; have := lv_neT h1_7 (a := 7) rfl; have := lv_neT h1_8 (a := 8) rfl; have := lv_neT h1_9 (a := 9) rfl; have := lv_neT h1_10 (a := 10) rfl; have := lv_neT h1_11 (a := 11) rfl; have := lv_neT h1_12 (a := 12) rfl; have := lv_neT h1_13 (a := 13) rfl; have := lv_neT h1_14 (a := 14) rfl; have := lv_neT h1_15 (a := 15) rfl; omega) (by decide) ?_
                      exact retV C w dX3_doFlagsAndIndex_167
set_option maxHeartbeats 4000000 in
set_option maxRecDepth 100000 in
theorem c_Pr_doFlagsAndIndex (l : Launch) (A : Nat → Prop) (D : va_G) (cA : Nat → ClassId) (tb : Nat) (ad : Nat → Nat) (mu nu : Mu) (x1 : Int32) : Met l yX3_doFlagsAndIndex wsX3_doFlagsAndIndex ({ frames := 2, cells := 0, slots := 0, locals := 43 }) (va_Pc [.ref (ad 9), .int x1] (Pw A D cA tb ad mu nu)) (va_Qv (fun (u : Mu × Mu) => u = (F_Pr_doFlagsAndIndex x1 mu, nu)) (Bw A D cA ad) A) 0 0 A := by
  refine Met.ofW (cc := cX3_doFlagsAndIndex) (maxL := 2) (ret := none) (by decide) rfl ?_
  intro p e s m args below meth c s₁ B hml hv
  obtain ⟨rfl, w0⟩ := hv
  have C : Cx cX3_doFlagsAndIndex 2 none wsX3_doFlagsAndIndex RX3 A D cA tb p s m _ meth c := ⟨B.exec, B.bytes, B.returns, hml, findClass_of_methodNamed B.named, atoms_spec (ws := wsX3_doFlagsAndIndex) B.pre, B.notSynchronized, w0.2.1, w0.2.2.2.1, w0.2.2.2.2⟩
  have hl := lv_entry ([.ref (ad 9), .int x1]) (n := 2) (Nat.le_of_ble_eq_true rfl)
  rw [lg_entry_eq]
  exact k_Pr_doFlagsAndIndex C w0.wd hl
def F_Pr_act_167 (y1 : Int32) (mu : Mu) : Mu := (ps mu 9 3 y1)
set_option maxHeartbeats 4000000 in
set_option maxRecDepth 100000 in
theorem k_Pr_act_167 (C : Cx cX3_act 3 none wsX3_act RX3 A D cA tb p s m args meth c) {mu nu : Mu} {y1 : Int32} {H : Heap} {locs : List Loc} {ls : Array Slot} (w : Wd A D cA ad s mu nu H locs) (hl : lv_has ls 3 []) : W p l e { frames := 6, cells := 0, slots := 0, locals := 138 } s m args below meth c H locs 0 0 (QV A D cA ad below args s (F_Pr_act_167 y1 mu) nu) (F0 m 167 ls [.int y1, .ref (ad 9)]) := by
  have hx := C.1
  have hb := C.2.1
  have hts := C.2.2.2.2.2.1
  have hown := C.2.2.2.2.1
  unfold F_Pr_act_167
  refine pt_9_3 C (fun _ h => List.mem_cons_of_mem _ (List.mem_append_left _ (List.mem_append_left _ (List.mem_append_left _ (List.mem_append_left _ (List.mem_append_left _ (List.mem_append_right _ h))))))) (hts _ (List.mem_of_getElem? (i := 8) rfl)) w dX3_act_167 (fun H locs w => ?_)
  refine lv_goto (tgt := 221) hx hb dX3_act_170 (by decide) ?_
  exact retV C w dX3_act_221
def F_Pr_act_189 (y1 : Int32) (mu : Mu) : Mu := (ps mu 9 4 y1)
set_option maxHeartbeats 4000000 in
set_option maxRecDepth 100000 in
theorem k_Pr_act_189 (C : Cx cX3_act 3 none wsX3_act RX3 A D cA tb p s m args meth c) {mu nu : Mu} {y1 : Int32} {H : Heap} {locs : List Loc} {ls : Array Slot} (w : Wd A D cA ad s mu nu H locs) (hl : lv_has ls 3 []) : W p l e { frames := 6, cells := 0, slots := 0, locals := 138 } s m args below meth c H locs 0 0 (QV A D cA ad below args s (F_Pr_act_189 y1 mu) nu) (F0 m 189 ls [.int y1, .ref (ad 9)]) := by
  have hx := C.1
  have hb := C.2.1
  have hts := C.2.2.2.2.2.1
  have hown := C.2.2.2.2.1
  unfold F_Pr_act_189
  refine pt_9_4 C (fun _ h => List.mem_cons_of_mem _ (List.mem_append_left _ (List.mem_append_left _ (List.mem_append_left _ (List.mem_append_left _ (List.mem_append_left _ (List.mem_append_right _ h))))))) (hts _ (List.mem_of_getElem? (i := 9) rfl)) w dX3_act_189 (fun H locs w => ?_)
  refine lv_goto (tgt := 221) hx hb dX3_act_192 (by decide) ?_
  exact retV C w dX3_act_221
def F_Pr_act_205 (y1 : Int32) (y2 : Int32) (mu : Mu) : Mu := (F_Pr_changeInMemory y1 y2 mu)
set_option maxHeartbeats 4000000 in
set_option maxRecDepth 100000 in
theorem k_Pr_act_205 (C : Cx cX3_act 3 none wsX3_act RX3 A D cA tb p s m args meth c) {mu nu : Mu} {y1 : Int32} {y2 : Int32} {H : Heap} {locs : List Loc} {ls : Array Slot} (w : Wd A D cA ad s mu nu H locs) (hl : lv_has ls 3 []) : W p l e { frames := 6, cells := 0, slots := 0, locals := 138 } s m args below meth c H locs 0 0 (QV A D cA ad below args s (F_Pr_act_205 y1 y2 mu) nu) (F0 m 205 ls [.int y2, .int y1, .ref (ad 9)]) := by
  have hx := C.1
  have hb := C.2.1
  have hts := C.2.2.2.2.2.1
  have hown := C.2.2.2.2.1
  unfold F_Pr_act_205
  refine kcV (k := 9) (ci := 3) (As := [.int y1, .int y2]) (rest := []) C w rfl rfl (c_Pr_changeInMemory l A D cA tb ad mu nu y1 y2) (cwV 2 hts gX3_act_X3_changeInMemory rfl rfl rfl (by decide +kernel) ⟨Nat.le_of_ble_eq_true rfl, Nat.le_of_ble_eq_true rfl⟩) rfl rfl hl.1 (Nat.le_of_ble_eq_true rfl) dX3_act_205 (fun H locs w => ?_)
  refine lv_goto (tgt := 221) hx hb dX3_act_208 (by decide) ?_
  exact retV C w dX3_act_221
def F_Pr_act_195 (x2 : Int32) (mu : Mu) : Mu := F_Pr_act_205 (x2 &&& 15) ((F_Pr_operandAddress x2 mu).1) ((F_Pr_operandAddress x2 mu).2)
set_option maxHeartbeats 4000000 in
set_option maxRecDepth 100000 in
theorem k_Pr_act_195 (C : Cx cX3_act 3 none wsX3_act RX3 A D cA tb p s m args meth c) {mu nu : Mu} {x2 : Int32} {H : Heap} {locs : List Loc} {ls : Array Slot} (w : Wd A D cA ad s mu nu H locs) (hl : lv_has ls 3 [(0, .ref (ad 9)), (2, .int x2)]) : W p l e { frames := 6, cells := 0, slots := 0, locals := 138 } s m args below meth c H locs 0 0 (QV A D cA ad below args s (F_Pr_act_195 x2 mu) nu) (F0 m 195 ls []) := by
  have hx := C.1
  have hb := C.2.1
  have hts := C.2.2.2.2.2.1
  have hown := C.2.2.2.2.1
  unfold F_Pr_act_195
  refine lv_aload_n hx hb dX3_act_195 rfl (lv_at hl 0 rfl) ?_
  refine lv_iload_n hx hb dX3_act_196 rfl (lv_at hl 1 rfl) ?_
  refine lv_bipush (v := 15) hx hb dX3_act_197 (by decide) ?_
  refine lv_iand hx hb dX3_act_199 ?_
  refine lv_aload_n hx hb dX3_act_200 rfl (lv_at hl 0 rfl) ?_
  refine lv_iload_n hx hb dX3_act_201 rfl (lv_at hl 1 rfl) ?_
  refine kcI (k := 9) (ci := 3) (As := [.int x2]) (rest := [.int ((x2 &&& 15)), .ref (ad 9)]) C w rfl rfl (c_Pr_operandAddress l A D cA tb ad mu nu x2) (cwV 1 hts gX3_act_X3_operandAddress rfl rfl rfl (by decide +kernel) ⟨Nat.le_of_ble_eq_true rfl, Nat.le_of_ble_eq_true rfl⟩) rfl rfl hl.1 (Nat.le_of_ble_eq_true rfl) dX3_act_202 (fun H locs w => ?_)
  exact k_Pr_act_205 C w (lv_sub hl [] rfl)
def F_Pr_act_218 (y1 : Int32) (y2 : Int32) (mu : Mu) : Mu := (F_Pr_doWithOperand y1 y2 mu)
set_option maxHeartbeats 4000000 in
set_option maxRecDepth 100000 in
theorem k_Pr_act_218 (C : Cx cX3_act 3 none wsX3_act RX3 A D cA tb p s m args meth c) {mu nu : Mu} {y1 : Int32} {y2 : Int32} {H : Heap} {locs : List Loc} {ls : Array Slot} (w : Wd A D cA ad s mu nu H locs) (hl : lv_has ls 3 []) : W p l e { frames := 6, cells := 0, slots := 0, locals := 138 } s m args below meth c H locs 0 0 (QV A D cA ad below args s (F_Pr_act_218 y1 y2 mu) nu) (F0 m 218 ls [.int y2, .int y1, .ref (ad 9)]) := by
  have hx := C.1
  have hb := C.2.1
  have hts := C.2.2.2.2.2.1
  have hown := C.2.2.2.2.1
  unfold F_Pr_act_218
  refine kcV (k := 9) (ci := 3) (As := [.int y1, .int y2]) (rest := []) C w rfl rfl (c_Pr_doWithOperand l A D cA tb ad mu nu y1 y2) (cwV 2 hts gX3_act_X3_doWithOperand rfl rfl rfl (by decide +kernel) ⟨Nat.le_of_ble_eq_true rfl, Nat.le_of_ble_eq_true rfl⟩) rfl rfl hl.1 (Nat.le_of_ble_eq_true rfl) dX3_act_218 (fun H locs w => ?_)
  exact retV C w dX3_act_221
def F_Pr_act_40 (y0 : Int32) (mu : Mu) : Mu := (if (F_Pr_isLegal y0 mu) = (0 : Int32) then (ps mu 9 9 1) else (if (y0 >>> (4 &&& 31)) = 0 then (F_Pr_doFlagsAndIndex y0 (ps mu 9 7 (((mu 9 7) + 1) &&& 65535))) else (if (y0 >>> (4 &&& 31)) = 1 then (F_Pr_doBetweenAccumulators y0 (ps mu 9 7 (((mu 9 7) + 1) &&& 65535))) else (if (y0 >>> (4 &&& 31)) = 2 then (F_Pr_branch (y0 &&& 15) (ps mu 9 7 (((mu 9 7) + 1) &&& 65535))) else (if (y0 >>> (4 &&& 31)) = 3 then (F_Pr_doStack y0 (ps mu 9 7 (((mu 9 7) + 1) &&& 65535))) else (if (y0 >>> (4 &&& 31)) = 4 then F_Pr_act_167 ((F_Ar_changed (y0 &&& 15) (mu 9 3) (ps mu 9 7 (((mu 9 7) + 1) &&& 65535))).1) ((F_Ar_changed (y0 &&& 15) (mu 9 3) (ps mu 9 7 (((mu 9 7) + 1) &&& 65535))).2) else (if (y0 >>> (4 &&& 31)) = 5 then F_Pr_act_189 ((F_Ar_changed (y0 &&& 15) (mu 9 4) (ps mu 9 7 (((mu 9 7) + 1) &&& 65535))).1) ((F_Ar_changed (y0 &&& 15) (mu 9 4) (ps mu 9 7 (((mu 9 7) + 1) &&& 65535))).2) else (if (y0 >>> (4 &&& 31)) = 6 then F_Pr_act_195 y0 (ps mu 9 7 (((mu 9 7) + 1) &&& 65535)) else (if (y0 >>> (4 &&& 31)) = 7 then F_Pr_act_195 y0 (ps mu 9 7 (((mu 9 7) + 1) &&& 65535)) else F_Pr_act_218 y0 ((F_Pr_operandAddress y0 (ps mu 9 7 (((mu 9 7) + 1) &&& 65535))).1) ((F_Pr_operandAddress y0 (ps mu 9 7 (((mu 9 7) + 1) &&& 65535))).2))))))))))
set_option maxHeartbeats 4000000 in
set_option maxRecDepth 100000 in
theorem k_Pr_act_40 (C : Cx cX3_act 3 none wsX3_act RX3 A D cA tb p s m args meth c) {mu nu : Mu} {y0 : Int32} {H : Heap} {locs : List Loc} {ls : Array Slot} (w : Wd A D cA ad s mu nu H locs) (hl : lv_has ls 3 [(0, .ref (ad 9))]) : W p l e { frames := 6, cells := 0, slots := 0, locals := 138 } s m args below meth c H locs 0 0 (QV A D cA ad below args s (F_Pr_act_40 y0 mu) nu) (F0 m 40 ls [.int y0]) := by
  have hx := C.1
  have hb := C.2.1
  have hts := C.2.2.2.2.2.1
  have hown := C.2.2.2.2.1
  unfold F_Pr_act_40
  refine lv_istore_n (lv' := [(2, .int y0), (0, .ref (ad 9))]) hx hb dX3_act_40 rfl hl (by decide) rfl (fun ls hl => ?_)
  refine lv_aload_n hx hb dX3_act_41 rfl (lv_at hl 1 rfl) ?_
  refine lv_iload_n hx hb dX3_act_42 rfl (lv_at hl 0 rfl) ?_
  refine kcI (k := 9) (ci := 3) (As := [.int y0]) (rest := []) C w rfl rfl (c_Pr_isLegal l A D cA tb ad mu nu y0) (cwV 1 hts gX3_act_X3_isLegal rfl rfl rfl (by decide +kernel) ⟨Nat.le_of_ble_eq_true rfl, Nat.le_of_ble_eq_true rfl⟩) rfl rfl hl.1 (Nat.le_of_ble_eq_true rfl) dX3_act_43 (fun H locs w => ?_)
  refine lv_if_ne (tgt := 55) hx hb dX3_act_46 (by decide) (fun h46 => ?_) (fun h46 => ?_)
  · rw [if_neg h46]
    refine lv_aload_n hx hb dX3_act_55 rfl (lv_at hl 1 rfl) ?_
    refine lv_aload_n hx hb dX3_act_56 rfl (lv_at hl 1 rfl) ?_
    refine gt_9_7 C (fun _ h => List.mem_cons_of_mem _ (List.mem_append_left _ (List.mem_append_left _ (List.mem_append_left _ (List.mem_append_left _ (List.mem_append_left _ (List.mem_append_right _ h))))))) (hts _ (List.mem_of_getElem? (i := 4) rfl)) w (v := (mu 9 7)) rfl dX3_act_57 ?_
    refine lv_iconst (v := 1) hx hb dX3_act_60 (by decide) ?_
    refine lv_iadd hx hb dX3_act_61 ?_
    refine lv_ldc (v := 65535) hx hb hown (hts _ (List.mem_of_getElem? (i := 6) rfl)) dX3_act_62 ?_
    refine lv_iand hx hb dX3_act_64 ?_
    refine pt_9_7 C (fun _ h => List.mem_cons_of_mem _ (List.mem_append_left _ (List.mem_append_left _ (List.mem_append_left _ (List.mem_append_left _ (List.mem_append_left _ (List.mem_append_right _ h))))))) (hts _ (List.mem_of_getElem? (i := 4) rfl)) w dX3_act_65 (fun H locs w => ?_)
    refine lv_iload_n hx hb dX3_act_68 rfl (lv_at hl 0 rfl) ?_
    refine lv_iconst (v := 4) hx hb dX3_act_69 (by decide) ?_
    refine lv_ishr hx hb dX3_act_70 ?_
    by_cases h71_0 : (y0 >>> (4 &&& 31)) = (0 : Int32)
    · rw [if_pos h71_0]
      refine lv_tableIn (off := 45) (tgt := 116) hx hb dX3_act_71 (by rw [h71_0]; decide) (by rw [h71_0]; decide) (by rw [h71_0]; decide) (by decide) ?_
      refine lv_aload_n hx hb dX3_act_116 rfl (lv_at hl 1 rfl) ?_
      refine lv_iload_n hx hb dX3_act_117 rfl (lv_at hl 0 rfl) ?_
      refine kcV (k := 9) (ci := 3) (As := [.int y0]) (rest := []) C w rfl rfl (c_Pr_doFlagsAndIndex l A D cA tb ad (ps mu 9 7 (((mu 9 7) + 1) &&& 65535)) nu y0) (cwV 1 hts gX3_act_X3_doFlagsAndIndex rfl rfl rfl (by decide +kernel) ⟨Nat.le_of_ble_eq_true rfl, Nat.le_of_ble_eq_true rfl⟩) rfl rfl hl.1 (Nat.le_of_ble_eq_true rfl) dX3_act_118 (fun H locs w => ?_)
      refine lv_goto (tgt := 221) hx hb dX3_act_121 (by decide) ?_
      exact retV C w dX3_act_221
    · rw [if_neg h71_0]
      by_cases h71_1 : (y0 >>> (4 &&& 31)) = (1 : Int32)
      · rw [if_pos h71_1]
        refine lv_tableIn (off := 53) (tgt := 124) hx hb dX3_act_71 (by rw [h71_1]; decide) (by rw [h71_1]; decide) (by rw [h71_1]; decide) (by decide) ?_
        refine lv_aload_n hx hb dX3_act_124 rfl (lv_at hl 1 rfl) ?_
        refine lv_iload_n hx hb dX3_act_125 rfl (lv_at hl 0 rfl) ?_
        refine kcV (k := 9) (ci := 3) (As := [.int y0]) (rest := []) C w rfl rfl (c_Pr_doBetweenAccumulators l A D cA tb ad (ps mu 9 7 (((mu 9 7) + 1) &&& 65535)) nu y0) (cwV 1 hts gX3_act_X3_doBetweenAccumulators rfl rfl rfl (by decide +kernel) ⟨Nat.le_of_ble_eq_true rfl, Nat.le_of_ble_eq_true rfl⟩) rfl rfl hl.1 (Nat.le_of_ble_eq_true rfl) dX3_act_126 (fun H locs w => ?_)
        refine lv_goto (tgt := 221) hx hb dX3_act_129 (by decide) ?_
        exact retV C w dX3_act_221
      · rw [if_neg h71_1]
        by_cases h71_2 : (y0 >>> (4 &&& 31)) = (2 : Int32)
        · rw [if_pos h71_2]
          refine lv_tableIn (off := 61) (tgt := 132) hx hb dX3_act_71 (by rw [h71_2]; decide) (by rw [h71_2]; decide) (by rw [h71_2]; decide) (by decide) ?_
          refine lv_aload_n hx hb dX3_act_132 rfl (lv_at hl 1 rfl) ?_
          refine lv_iload_n hx hb dX3_act_133 rfl (lv_at hl 0 rfl) ?_
          refine lv_bipush (v := 15) hx hb dX3_act_134 (by decide) ?_
          refine lv_iand hx hb dX3_act_136 ?_
          refine kcV (k := 9) (ci := 3) (As := [.int ((y0 &&& 15))]) (rest := []) C w rfl rfl (c_Pr_branch l A D cA tb ad (ps mu 9 7 (((mu 9 7) + 1) &&& 65535)) nu (y0 &&& 15)) (cwV 1 hts gX3_act_X3_branch rfl rfl rfl (by decide +kernel) ⟨Nat.le_of_ble_eq_true rfl, Nat.le_of_ble_eq_true rfl⟩) rfl rfl hl.1 (Nat.le_of_ble_eq_true rfl) dX3_act_137 (fun H locs w => ?_)
          refine lv_goto (tgt := 221) hx hb dX3_act_140 (by decide) ?_
          exact retV C w dX3_act_221
        · rw [if_neg h71_2]
          by_cases h71_3 : (y0 >>> (4 &&& 31)) = (3 : Int32)
          · rw [if_pos h71_3]
            refine lv_tableIn (off := 72) (tgt := 143) hx hb dX3_act_71 (by rw [h71_3]; decide) (by rw [h71_3]; decide) (by rw [h71_3]; decide) (by decide) ?_
            refine lv_aload_n hx hb dX3_act_143 rfl (lv_at hl 1 rfl) ?_
            refine lv_iload_n hx hb dX3_act_144 rfl (lv_at hl 0 rfl) ?_
            refine kcV (k := 9) (ci := 3) (As := [.int y0]) (rest := []) C w rfl rfl (c_Pr_doStack l A D cA tb ad (ps mu 9 7 (((mu 9 7) + 1) &&& 65535)) nu y0) (cwV 1 hts gX3_act_X3_doStack rfl rfl rfl (by decide +kernel) ⟨Nat.le_of_ble_eq_true rfl, Nat.le_of_ble_eq_true rfl⟩) rfl rfl hl.1 (Nat.le_of_ble_eq_true rfl) dX3_act_145 (fun H locs w => ?_)
            refine lv_goto (tgt := 221) hx hb dX3_act_148 (by decide) ?_
            exact retV C w dX3_act_221
          · rw [if_neg h71_3]
            by_cases h71_4 : (y0 >>> (4 &&& 31)) = (4 : Int32)
            · rw [if_pos h71_4]
              refine lv_tableIn (off := 80) (tgt := 151) hx hb dX3_act_71 (by rw [h71_4]; decide) (by rw [h71_4]; decide) (by rw [h71_4]; decide) (by decide) ?_
              refine lv_aload_n hx hb dX3_act_151 rfl (lv_at hl 1 rfl) ?_
              refine lv_aload_n hx hb dX3_act_152 rfl (lv_at hl 1 rfl) ?_
              refine gt_9_1 C (fun _ h => List.mem_cons_of_mem _ (List.mem_append_left _ (List.mem_append_left _ (List.mem_append_left _ (List.mem_append_left _ (List.mem_append_left _ (List.mem_append_right _ h))))))) (hts _ (List.mem_of_getElem? (i := 7) rfl)) w dX3_act_153 ?_
              refine lv_iload_n hx hb dX3_act_156 rfl (lv_at hl 0 rfl) ?_
              refine lv_bipush (v := 15) hx hb dX3_act_157 (by decide) ?_
              refine lv_iand hx hb dX3_act_159 ?_
              refine lv_aload_n hx hb dX3_act_160 rfl (lv_at hl 1 rfl) ?_
              refine gt_9_3 C (fun _ h => List.mem_cons_of_mem _ (List.mem_append_left _ (List.mem_append_left _ (List.mem_append_left _ (List.mem_append_left _ (List.mem_append_left _ (List.mem_append_right _ h))))))) (hts _ (List.mem_of_getElem? (i := 8) rfl)) w (v := (mu 9 3)) rfl dX3_act_161 ?_
              refine kcI (k := 11) (ci := 0) (As := [.int ((y0 &&& 15)), .int ((mu 9 3))]) (rest := [.ref (ad 9)]) C w rfl rfl (c_Ar_changed l A D cA tb ad (ps mu 9 7 (((mu 9 7) + 1) &&& 65535)) nu (y0 &&& 15) (mu 9 3)) (cwV 2 hts gX3_act_X0_changed rfl rfl rfl (by decide +kernel) ⟨Nat.le_of_ble_eq_true rfl, Nat.le_of_ble_eq_true rfl⟩) rfl rfl hl.1 (Nat.le_of_ble_eq_true rfl) dX3_act_164 (fun H locs w => ?_)
              exact k_Pr_act_167 C w (lv_sub hl [] rfl)
            · rw [if_neg h71_4]
              by_cases h71_5 : (y0 >>> (4 &&& 31)) = (5 : Int32)
              · rw [if_pos h71_5]
                refine lv_tableIn (off := 102) (tgt := 173) hx hb dX3_act_71 (by rw [h71_5]; decide) (by rw [h71_5]; decide) (by rw [h71_5]; decide) (by decide) ?_
                refine lv_aload_n hx hb dX3_act_173 rfl (lv_at hl 1 rfl) ?_
                refine lv_aload_n hx hb dX3_act_174 rfl (lv_at hl 1 rfl) ?_
                refine gt_9_1 C (fun _ h => List.mem_cons_of_mem _ (List.mem_append_left _ (List.mem_append_left _ (List.mem_append_left _ (List.mem_append_left _ (List.mem_append_left _ (List.mem_append_right _ h))))))) (hts _ (List.mem_of_getElem? (i := 7) rfl)) w dX3_act_175 ?_
                refine lv_iload_n hx hb dX3_act_178 rfl (lv_at hl 0 rfl) ?_
                refine lv_bipush (v := 15) hx hb dX3_act_179 (by decide) ?_
                refine lv_iand hx hb dX3_act_181 ?_
                refine lv_aload_n hx hb dX3_act_182 rfl (lv_at hl 1 rfl) ?_
                refine gt_9_4 C (fun _ h => List.mem_cons_of_mem _ (List.mem_append_left _ (List.mem_append_left _ (List.mem_append_left _ (List.mem_append_left _ (List.mem_append_left _ (List.mem_append_right _ h))))))) (hts _ (List.mem_of_getElem? (i := 9) rfl)) w (v := (mu 9 4)) rfl dX3_act_183 ?_
                refine kcI (k := 11) (ci := 0) (As := [.int ((y0 &&& 15)), .int ((mu 9 4))]) (rest := [.ref (ad 9)]) C w rfl rfl (c_Ar_changed l A D cA tb ad (ps mu 9 7 (((mu 9 7) + 1) &&& 65535)) nu (y0 &&& 15) (mu 9 4)) (cwV 2 hts gX3_act_X0_changed rfl rfl rfl (by decide +kernel) ⟨Nat.le_of_ble_eq_true rfl, Nat.le_of_ble_eq_true rfl⟩) rfl rfl hl.1 (Nat.le_of_ble_eq_true rfl) dX3_act_186 (fun H locs w => ?_)
                exact k_Pr_act_189 C w (lv_sub hl [] rfl)
              · rw [if_neg h71_5]
                by_cases h71_6 : (y0 >>> (4 &&& 31)) = (6 : Int32)
                · rw [if_pos h71_6]
                  refine lv_tableIn (off := 124) (tgt := 195) hx hb dX3_act_71 (by rw [h71_6]; decide) (by rw [h71_6]; decide) (by rw [h71_6]; decide) (by decide) ?_
                  exact k_Pr_act_195 C w (lv_sub hl [1, 0] rfl)
                · rw [if_neg h71_6]
                  by_cases h71_7 : (y0 >>> (4 &&& 31)) = (7 : Int32)
                  · rw [if_pos h71_7]
                    refine lv_tableIn (off := 124) (tgt := 195) hx hb dX3_act_71 (by rw [h71_7]; decide) (by rw [h71_7]; decide) (by rw [h71_7]; decide) (by decide) ?_
                    exact k_Pr_act_195 C w (lv_sub hl [1, 0] rfl)
                  · rw [if_neg h71_7]
                    refine lv_tableOut (tgt := 211) hx hb dX3_act_71 (by have := lv_neT h71_0 (a := 0) rfl; have := lv_neT h71_1 (a := 1) rfl; have := lv_neT h71_2 (a := 2) rfl; have := lv_neT h71_3 (a := 3) rfl; have := lv_neT h71_4 (a := 4) rfl; have := lv_neT h71_5 (a := 5) rfl; have := lv_neT h71_6 (a := 6) rfl; have := lv_neT h71_7 (a := 7) rfl; omega) (by decide) ?_
                    refine lv_aload_n hx hb dX3_act_211 rfl (lv_at hl 1 rfl) ?_
                    refine lv_iload_n hx hb dX3_act_212 rfl (lv_at hl 0 rfl) ?_
                    refine lv_aload_n hx hb dX3_act_213 rfl (lv_at hl 1 rfl) ?_
                    refine lv_iload_n hx hb dX3_act_214 rfl (lv_at hl 0 rfl) ?_
                    refine kcI (k := 9) (ci := 3) (As := [.int y0]) (rest := [.int y0, .ref (ad 9)]) C w rfl rfl (c_Pr_operandAddress l A D cA tb ad (ps mu 9 7 (((mu 9 7) + 1) &&& 65535)) nu y0) (cwV 1 hts gX3_act_X3_operandAddress rfl rfl rfl (by decide +kernel) ⟨Nat.le_of_ble_eq_true rfl, Nat.le_of_ble_eq_true rfl⟩) rfl rfl hl.1 (Nat.le_of_ble_eq_true rfl) dX3_act_215 (fun H locs w => ?_)
                    exact k_Pr_act_218 C w (lv_sub hl [] rfl)
  · rw [if_pos h46]
    refine lv_aload_n hx hb dX3_act_49 rfl (lv_at hl 1 rfl) ?_
    refine lv_iconst (v := 1) hx hb dX3_act_50 (by decide) ?_
    refine pt_9_9 C (fun _ h => List.mem_cons_of_mem _ (List.mem_append_left _ (List.mem_append_left _ (List.mem_append_left _ (List.mem_append_left _ (List.mem_append_left _ (List.mem_append_right _ h))))))) (hts _ (List.mem_of_getElem? (i := 5) rfl)) w (Or.inr rfl) dX3_act_51 (fun H locs w => ?_)
    exact retV C w dX3_act_54
def F_Pr_act_21 (mu : Mu) : Mu := (if (mu 9 8) = (0 : Int32) then F_Pr_act_40 ((F_Bu_read (mu 9 7) mu).1) ((F_Bu_read (mu 9 7) mu).2) else mu)
set_option maxHeartbeats 4000000 in
set_option maxRecDepth 100000 in
theorem k_Pr_act_21 (C : Cx cX3_act 3 none wsX3_act RX3 A D cA tb p s m args meth c) {mu nu : Mu} {H : Heap} {locs : List Loc} {ls : Array Slot} (w : Wd A D cA ad s mu nu H locs) (hl : lv_has ls 3 [(0, .ref (ad 9))]) : W p l e { frames := 6, cells := 0, slots := 0, locals := 138 } s m args below meth c H locs 0 0 (QV A D cA ad below args s (F_Pr_act_21 mu) nu) (F0 m 21 ls []) := by
  have hx := C.1
  have hb := C.2.1
  have hts := C.2.2.2.2.2.1
  have hown := C.2.2.2.2.1
  unfold F_Pr_act_21
  refine lv_aload_n hx hb dX3_act_21 rfl (lv_at hl 0 rfl) ?_
  refine gt_9_8 C (fun _ h => List.mem_cons_of_mem _ (List.mem_append_left _ (List.mem_append_left _ (List.mem_append_left _ (List.mem_append_left _ (List.mem_append_left _ (List.mem_append_right _ h))))))) (hts _ (List.mem_of_getElem? (i := 2) rfl)) w (v := (mu 9 8)) rfl dX3_act_22 ?_
  refine lv_if_eq (tgt := 29) hx hb dX3_act_25 (by decide) (fun h25 => ?_) (fun h25 => ?_)
  · rw [if_pos h25]
    refine lv_aload_n hx hb dX3_act_29 rfl (lv_at hl 0 rfl) ?_
    refine gt_9_0 C (fun _ h => List.mem_cons_of_mem _ (List.mem_append_left _ (List.mem_append_left _ (List.mem_append_left _ (List.mem_append_left _ (List.mem_append_left _ (List.mem_append_right _ h))))))) (hts _ (List.mem_of_getElem? (i := 3) rfl)) w dX3_act_30 ?_
    refine lv_aload_n hx hb dX3_act_33 rfl (lv_at hl 0 rfl) ?_
    refine gt_9_7 C (fun _ h => List.mem_cons_of_mem _ (List.mem_append_left _ (List.mem_append_left _ (List.mem_append_left _ (List.mem_append_left _ (List.mem_append_left _ (List.mem_append_right _ h))))))) (hts _ (List.mem_of_getElem? (i := 4) rfl)) w (v := (mu 9 7)) rfl dX3_act_34 ?_
    refine kcI (k := 6) (ci := 1) (As := [.int ((mu 9 7))]) (rest := []) C w rfl rfl (c_Bu_read l A D cA tb ad mu nu (mu 9 7)) (cwV 1 hts gX3_act_X1_read rfl rfl rfl (by decide +kernel) ⟨Nat.le_of_ble_eq_true rfl, Nat.le_of_ble_eq_true rfl⟩) rfl rfl hl.1 (Nat.le_of_ble_eq_true rfl) dX3_act_37 (fun H locs w => ?_)
    exact k_Pr_act_40 C w (lv_sub hl [0] rfl)
  · rw [if_neg h25]
    exact retV C w dX3_act_28
def F_Pr_act (x1 : Int32) (mu : Mu) : Mu := (if x1 = (0 : Int32) then F_Pr_act_21 mu else (if (F_Fl_has 16 mu) = (0 : Int32) then (F_Pr_interrupt mu) else F_Pr_act_21 mu))
set_option maxHeartbeats 4000000 in
set_option maxRecDepth 100000 in
theorem k_Pr_act (C : Cx cX3_act 3 none wsX3_act RX3 A D cA tb p s m args meth c) {mu nu : Mu} {x1 : Int32} {H : Heap} {locs : List Loc} {ls : Array Slot} (w : Wd A D cA ad s mu nu H locs) (hl : lv_has ls 3 [(0, .ref (ad 9)), (1, .int x1)]) : W p l e { frames := 6, cells := 0, slots := 0, locals := 138 } s m args below meth c H locs 0 0 (QV A D cA ad below args s (F_Pr_act x1 mu) nu) (F0 m 0 ls []) := by
  have hx := C.1
  have hb := C.2.1
  have hts := C.2.2.2.2.2.1
  have hown := C.2.2.2.2.1
  unfold F_Pr_act
  refine lv_iload_n hx hb dX3_act_0 rfl (lv_at hl 1 rfl) ?_
  refine lv_if_eq (tgt := 21) hx hb dX3_act_1 (by decide) (fun h1 => ?_) (fun h1 => ?_)
  · rw [if_pos h1]
    exact k_Pr_act_21 C w (lv_sub hl [0] rfl)
  · rw [if_neg h1]
    refine lv_aload_n hx hb dX3_act_4 rfl (lv_at hl 0 rfl) ?_
    refine gt_9_2 C (fun _ h => List.mem_cons_of_mem _ (List.mem_append_left _ (List.mem_append_left _ (List.mem_append_left _ (List.mem_append_left _ (List.mem_append_left _ (List.mem_append_right _ h))))))) (hts _ (List.mem_of_getElem? (i := 1) rfl)) w dX3_act_5 ?_
    refine lv_bipush (v := 16) hx hb dX3_act_8 (by decide) ?_
    refine kcI (k := 10) (ci := 2) (As := [.int 16]) (rest := []) C w rfl rfl (c_Fl_has l A D cA tb ad mu nu 16) (cwV 1 hts gX3_act_X2_has rfl rfl rfl (by decide +kernel) ⟨Nat.le_of_ble_eq_true rfl, Nat.le_of_ble_eq_true rfl⟩) rfl rfl hl.1 (Nat.le_of_ble_eq_true rfl) dX3_act_10 (fun H locs w => ?_)
    refine lv_if_ne (tgt := 21) hx hb dX3_act_13 (by decide) (fun h13 => ?_) (fun h13 => ?_)
    · rw [if_neg h13]
      exact k_Pr_act_21 C w (lv_sub hl [0] rfl)
    · rw [if_pos h13]
      refine lv_aload_n hx hb dX3_act_16 rfl (lv_at hl 0 rfl) ?_
      refine kcV (k := 9) (ci := 3) (As := []) (rest := []) C w rfl rfl (c_Pr_interrupt l A D cA tb ad mu nu) (cwV 0 hts gX3_act_X3_interrupt rfl rfl rfl (by decide +kernel) ⟨Nat.le_of_ble_eq_true rfl, Nat.le_of_ble_eq_true rfl⟩) rfl rfl hl.1 (Nat.le_of_ble_eq_true rfl) dX3_act_17 (fun H locs w => ?_)
      exact retV C w dX3_act_20
set_option maxHeartbeats 4000000 in
set_option maxRecDepth 100000 in
theorem c_Pr_act (l : Launch) (A : Nat → Prop) (D : va_G) (cA : Nat → ClassId) (tb : Nat) (ad : Nat → Nat) (mu nu : Mu) (x1 : Int32) : Met l yX3_act wsX3_act ({ frames := 6, cells := 0, slots := 0, locals := 138 }) (va_Pc [.ref (ad 9), .int x1] (Pw A D cA tb ad mu nu)) (va_Qv (fun (u : Mu × Mu) => u = (F_Pr_act x1 mu, nu)) (Bw A D cA ad) A) 0 0 A := by
  refine Met.ofW (cc := cX3_act) (maxL := 3) (ret := none) (by decide) rfl ?_
  intro p e s m args below meth c s₁ B hml hv
  obtain ⟨rfl, w0⟩ := hv
  have C : Cx cX3_act 3 none wsX3_act RX3 A D cA tb p s m _ meth c := ⟨B.exec, B.bytes, B.returns, hml, findClass_of_methodNamed B.named, atoms_spec (ws := wsX3_act) B.pre, B.notSynchronized, w0.2.1, w0.2.2.2.1, w0.2.2.2.2⟩
  have hl := lv_entry ([.ref (ad 9), .int x1]) (n := 3) (Nat.le_of_ble_eq_true rfl)
  rw [lg_entry_eq]
  exact k_Pr_act C w0.wd hl
end
