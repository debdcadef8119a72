section
variable {p : Program} {l : Launch} {e : Env} {s : State} {m : MethodId} {args : Array Value} {below : List Frame} {meth : Method} {c : Code} 
variable {A : Nat → Prop} {D : va_G} {cA : Nat → ClassId} {tb : Nat} {ad : Nat → Nat}
def F_Md_withTwo_152 (x2 : Int32) (x3 : Int32) (mu : Mu) : Int32 × Mu := ((F_Md_plus x2 x3 0 mu).1, (F_Md_plus x2 x3 0 mu).2)
set_option maxHeartbeats 4000000 in
set_option maxRecDepth 100000 in
theorem k_Md_withTwo_152 (C : Cx cX7_withTwo 5 (some .int) wsX7_withTwo RX7 A D cA tb p s m args meth c) {mu nu : Mu} {x2 : Int32} {x3 : Int32} {H : Heap} {locs : List Loc} {ls : Array Slot} (w : Wd A D cA ad s nu mu H locs) (hl : lv_has ls 5 [(0, .ref (ad 12)), (2, .int x2), (3, .int x3)]) : W p l e { frames := 3, cells := 0, slots := 0, locals := 67 } s m args below meth c H locs 0 0 (QI A D cA ad below args s (F_Md_withTwo_152 x2 x3 mu).1 nu (F_Md_withTwo_152 x2 x3 mu).2) (F0 m 152 ls []) := by
  have hx := C.1
  have hb := C.2.1
  have hts := C.2.2.2.2.2.1
  have hown := C.2.2.2.2.1
  unfold F_Md_withTwo_152
  refine lv_aload_n hx hb dX7_withTwo_152 rfl (lv_at hl 0 rfl) ?_
  refine lv_iload_n hx hb dX7_withTwo_153 rfl (lv_at hl 1 rfl) ?_
  refine lv_iload_n hx hb dX7_withTwo_154 rfl (lv_at hl 2 rfl) ?_
  refine lv_iconst (v := 0) hx hb dX7_withTwo_155 (by decide) ?_
  refine kcI (k := 12) (ci := 7) (As := [.int x2, .int x3, .int 0]) (rest := []) C w rfl rfl (c_Md_plus l A D cA tb ad mu nu x2 x3 0) (cwV 3 hts gX7_withTwo_X7_plus rfl rfl rfl (by decide +kernel) ⟨Nat.le_of_ble_eq_true rfl, Nat.le_of_ble_eq_true rfl⟩) rfl rfl hl.1 (Nat.le_of_ble_eq_true rfl) dX7_withTwo_156 (fun H locs w => ?_)
  exact retI C w dX7_withTwo_159
def F_Md_withTwo_13 (x1 : Int32) (x2 : Int32) (x3 : Int32) (y0 : Int32) (mu : Mu) : Int32 × Mu := (if x1 = 0 then ((F_Md_less x2 x3 0 mu).1, (F_Md_less x2 x3 0 mu).2) else (if x1 = 1 then (x2, (F_Md_less x2 x3 0 mu).2) else (if x1 = 2 then ((F_Md_less x2 x3 y0 mu).1, (F_Md_less x2 x3 y0 mu).2) else (if x1 = 3 then F_Md_withTwo_152 x2 x3 mu else (if x1 = 4 then ((F_Md_nzv (x2 &&& x3) mu).1, (F_Md_nzv (x2 &&& x3) mu).2) else (if x1 = 5 then (x2, (F_Md_nzv (x2 &&& x3) mu).2) else (if x1 = 6 then ((F_Md_nzv x3 mu).1, (F_Md_nzv x3 mu).2) else (if x1 = 7 then F_Md_withTwo_152 x2 x3 mu else (if x1 = 8 then ((F_Md_nzv (x2 ^^^ x3) mu).1, (F_Md_nzv (x2 ^^^ x3) mu).2) else (if x1 = 9 then ((F_Md_plus x2 x3 y0 mu).1, (F_Md_plus x2 x3 y0 mu).2) else (if x1 = 10 then ((F_Md_nzv (x2 ||| x3) mu).1, (F_Md_nzv (x2 ||| x3) mu).2) else F_Md_withTwo_152 x2 x3 mu)))))))))))
set_option maxHeartbeats 4000000 in
set_option maxRecDepth 100000 in
theorem k_Md_withTwo_13 (C : Cx cX7_withTwo 5 (some .int) wsX7_withTwo RX7 A D cA tb p s m args meth c) {mu nu : Mu} {x1 : Int32} {x2 : Int32} {x3 : Int32} {y0 : Int32} {H : Heap} {locs : List Loc} {ls : Array Slot} (w : Wd A D cA ad s nu mu H locs) (hl : lv_has ls 5 [(0, .ref (ad 12)), (1, .int x1), (2, .int x2), (3, .int x3)]) : W p l e { frames := 3, cells := 0, slots := 0, locals := 67 } s m args below meth c H locs 0 0 (QI A D cA ad below args s (F_Md_withTwo_13 x1 x2 x3 y0 mu).1 nu (F_Md_withTwo_13 x1 x2 x3 y0 mu).2) (F0 m 13 ls [.int y0]) := by
  have hx := C.1
  have hb := C.2.1
  have hts := C.2.2.2.2.2.1
  have hown := C.2.2.2.2.1
  unfold F_Md_withTwo_13
  refine lv_istore (lv' := [(4, .int y0), (0, .ref (ad 12)), (1, .int x1), (2, .int x2), (3, .int x3)]) hx hb dX7_withTwo_13 hl (by decide) rfl (fun ls hl => ?_)
  refine lv_iload_n hx hb dX7_withTwo_15 rfl (lv_at hl 2 rfl) ?_
  by_cases h16_0 : x1 = (0 : Int32)
  · rw [if_pos h16_0]
    refine lv_tableIn (off := 60) (tgt := 76) hx hb dX7_withTwo_16 (by rw [h16_0]; decide) (by rw [h16_0]; decide) (by rw [h16_0]; decide) (by decide) ?_
    refine lv_aload_n hx hb dX7_withTwo_76 rfl (lv_at hl 1 rfl) ?_
    refine lv_iload_n hx hb dX7_withTwo_77 rfl (lv_at hl 3 rfl) ?_
    refine lv_iload_n hx hb dX7_withTwo_78 rfl (lv_at hl 4 rfl) ?_
    refine lv_iconst (v := 0) hx hb dX7_withTwo_79 (by decide) ?_
    refine kcI (k := 12) (ci := 7) (As := [.int x2, .int x3, .int 0]) (rest := []) C w rfl rfl (c_Md_less l A D cA tb ad mu nu x2 x3 0) (cwV 3 hts gX7_withTwo_X7_less rfl rfl rfl (by decide +kernel) ⟨Nat.le_of_ble_eq_true rfl, Nat.le_of_ble_eq_true rfl⟩) rfl rfl hl.1 (Nat.le_of_ble_eq_true rfl) dX7_withTwo_80 (fun H locs w => ?_)
    exact retI C w dX7_withTwo_83
  · rw [if_neg h16_0]
    by_cases h16_1 : x1 = (1 : Int32)
    · rw [if_pos h16_1]
      refine lv_tableIn (off := 68) (tgt := 84) hx hb dX7_withTwo_16 (by rw [h16_1]; decide) (by rw [h16_1]; decide) (by rw [h16_1]; decide) (by decide) ?_
      refine lv_aload_n hx hb dX7_withTwo_84 rfl (lv_at hl 1 rfl) ?_
      refine lv_iload_n hx hb dX7_withTwo_85 rfl (lv_at hl 3 rfl) ?_
      refine lv_iload_n hx hb dX7_withTwo_86 rfl (lv_at hl 4 rfl) ?_
      refine lv_iconst (v := 0) hx hb dX7_withTwo_87 (by decide) ?_
      refine kcI (k := 12) (ci := 7) (As := [.int x2, .int x3, .int 0]) (rest := []) C w rfl rfl (c_Md_less l A D cA tb ad mu nu x2 x3 0) (cwV 3 hts gX7_withTwo_X7_less rfl rfl rfl (by decide +kernel) ⟨Nat.le_of_ble_eq_true rfl, Nat.le_of_ble_eq_true rfl⟩) rfl rfl hl.1 (Nat.le_of_ble_eq_true rfl) dX7_withTwo_88 (fun H locs w => ?_)
      refine lv_pop hx hb dX7_withTwo_91 rfl ?_
      refine lv_iload_n hx hb dX7_withTwo_92 rfl (lv_at hl 3 rfl) ?_
      exact retI C w dX7_withTwo_93
    · rw [if_neg h16_1]
      by_cases h16_2 : x1 = (2 : Int32)
      · rw [if_pos h16_2]
        refine lv_tableIn (off := 78) (tgt := 94) hx hb dX7_withTwo_16 (by rw [h16_2]; decide) (by rw [h16_2]; decide) (by rw [h16_2]; decide) (by decide) ?_
        refine lv_aload_n hx hb dX7_withTwo_94 rfl (lv_at hl 1 rfl) ?_
        refine lv_iload_n hx hb dX7_withTwo_95 rfl (lv_at hl 3 rfl) ?_
        refine lv_iload_n hx hb dX7_withTwo_96 rfl (lv_at hl 4 rfl) ?_
        refine lv_iload hx hb dX7_withTwo_97 (lv_at hl 0 rfl) ?_
        refine kcI (k := 12) (ci := 7) (As := [.int x2, .int x3, .int y0]) (rest := []) C w rfl rfl (c_Md_less l A D cA tb ad mu nu x2 x3 y0) (cwV 3 hts gX7_withTwo_X7_less rfl rfl rfl (by decide +kernel) ⟨Nat.le_of_ble_eq_true rfl, Nat.le_of_ble_eq_true rfl⟩) rfl rfl hl.1 (Nat.le_of_ble_eq_true rfl) dX7_withTwo_99 (fun H locs w => ?_)
        exact retI C w dX7_withTwo_102
      · rw [if_neg h16_2]
        by_cases h16_3 : x1 = (3 : Int32)
        · rw [if_pos h16_3]
          refine lv_tableIn (off := 136) (tgt := 152) hx hb dX7_withTwo_16 (by rw [h16_3]; decide) (by rw [h16_3]; decide) (by rw [h16_3]; decide) (by decide) ?_
          exact k_Md_withTwo_152 C w (lv_sub hl [1, 3, 4] rfl)
        · rw [if_neg h16_3]
          by_cases h16_4 : x1 = (4 : Int32)
          · rw [if_pos h16_4]
            refine lv_tableIn (off := 87) (tgt := 103) hx hb dX7_withTwo_16 (by rw [h16_4]; decide) (by rw [h16_4]; decide) (by rw [h16_4]; decide) (by decide) ?_
            refine lv_aload_n hx hb dX7_withTwo_103 rfl (lv_at hl 1 rfl) ?_
            refine lv_iload_n hx hb dX7_withTwo_104 rfl (lv_at hl 3 rfl) ?_
            refine lv_iload_n hx hb dX7_withTwo_105 rfl (lv_at hl 4 rfl) ?_
            refine lv_iand hx hb dX7_withTwo_106 ?_
            refine kcI (k := 12) (ci := 7) (As := [.int ((x2 &&& x3))]) (rest := []) C w rfl rfl (c_Md_nzv l A D cA tb ad mu nu (x2 &&& x3)) (cwV 1 hts gX7_withTwo_X7_nzv rfl rfl rfl (by decide +kernel) ⟨Nat.le_of_ble_eq_true rfl, Nat.le_of_ble_eq_true rfl⟩) rfl rfl hl.1 (Nat.le_of_ble_eq_true rfl) dX7_withTwo_107 (fun H locs w => ?_)
            exact retI C w dX7_withTwo_110
          · rw [if_neg h16_4]
            by_cases h16_5 : x1 = (5 : Int32)
            · rw [if_pos h16_5]
              refine lv_tableIn (off := 95) (tgt := 111) hx hb dX7_withTwo_16 (by rw [h16_5]; decide) (by rw [h16_5]; decide) (by rw [h16_5]; decide) (by decide) ?_
              refine lv_aload_n hx hb dX7_withTwo_111 rfl (lv_at hl 1 rfl) ?_
              refine lv_iload_n hx hb dX7_withTwo_112 rfl (lv_at hl 3 rfl) ?_
              refine lv_iload_n hx hb dX7_withTwo_113 rfl (lv_at hl 4 rfl) ?_
              refine lv_iand hx hb dX7_withTwo_114 ?_
              refine kcI (k := 12) (ci := 7) (As := [.int ((x2 &&& x3))]) (rest := []) C w rfl rfl (c_Md_nzv l A D cA tb ad mu nu (x2 &&& x3)) (cwV 1 hts gX7_withTwo_X7_nzv rfl rfl rfl (by decide +kernel) ⟨Nat.le_of_ble_eq_true rfl, Nat.le_of_ble_eq_true rfl⟩) rfl rfl hl.1 (Nat.le_of_ble_eq_true rfl) dX7_withTwo_115 (fun H locs w => ?_)
              refine lv_pop hx hb dX7_withTwo_118 rfl ?_
              refine lv_iload_n hx hb dX7_withTwo_119 rfl (lv_at hl 3 rfl) ?_
              exact retI C w dX7_withTwo_120
            · rw [if_neg h16_5]
              by_cases h16_6 : x1 = (6 : Int32)
              · rw [if_pos h16_6]
                refine lv_tableIn (off := 105) (tgt := 121) hx hb dX7_withTwo_16 (by rw [h16_6]; decide) (by rw [h16_6]; decide) (by rw [h16_6]; decide) (by decide) ?_
                refine lv_aload_n hx hb dX7_withTwo_121 rfl (lv_at hl 1 rfl) ?_
                refine lv_iload_n hx hb dX7_withTwo_122 rfl (lv_at hl 4 rfl) ?_
                refine kcI (k := 12) (ci := 7) (As := [.int x3]) (rest := []) C w rfl rfl (c_Md_nzv l A D cA tb ad mu nu x3) (cwV 1 hts gX7_withTwo_X7_nzv rfl rfl rfl (by decide +kernel) ⟨Nat.le_of_ble_eq_true rfl, Nat.le_of_ble_eq_true rfl⟩) rfl rfl hl.1 (Nat.le_of_ble_eq_true rfl) dX7_withTwo_123 (fun H locs w => ?_)
                exact retI C w dX7_withTwo_126
              · rw [if_neg h16_6]
                by_cases h16_7 : x1 = (7 : Int32)
                · rw [if_pos h16_7]
                  refine lv_tableIn (off := 136) (tgt := 152) hx hb dX7_withTwo_16 (by rw [h16_7]; decide) (by rw [h16_7]; decide) (by rw [h16_7]; decide) (by decide) ?_
                  exact k_Md_withTwo_152 C w (lv_sub hl [1, 3, 4] rfl)
                · rw [if_neg h16_7]
                  by_cases h16_8 : x1 = (8 : Int32)
                  · rw [if_pos h16_8]
                    refine lv_tableIn (off := 111) (tgt := 127) hx hb dX7_withTwo_16 (by rw [h16_8]; decide) (by rw [h16_8]; decide) (by rw [h16_8]; decide) (by decide) ?_
                    refine lv_aload_n hx hb dX7_withTwo_127 rfl (lv_at hl 1 rfl) ?_
                    refine lv_iload_n hx hb dX7_withTwo_128 rfl (lv_at hl 3 rfl) ?_
                    refine lv_iload_n hx hb dX7_withTwo_129 rfl (lv_at hl 4 rfl) ?_
                    refine lv_ixor hx hb dX7_withTwo_130 ?_
                    refine kcI (k := 12) (ci := 7) (As := [.int ((x2 ^^^ x3))]) (rest := []) C w rfl rfl (c_Md_nzv l A D cA tb ad mu nu (x2 ^^^ x3)) (cwV 1 hts gX7_withTwo_X7_nzv rfl rfl rfl (by decide +kernel) ⟨Nat.le_of_ble_eq_true rfl, Nat.le_of_ble_eq_true rfl⟩) rfl rfl hl.1 (Nat.le_of_ble_eq_true rfl) dX7_withTwo_131 (fun H locs w => ?_)
                    exact retI C w dX7_withTwo_134
                  · rw [if_neg h16_8]
                    by_cases h16_9 : x1 = (9 : Int32)
                    · rw [if_pos h16_9]
                      refine lv_tableIn (off := 119) (tgt := 135) hx hb dX7_withTwo_16 (by rw [h16_9]; decide) (by rw [h16_9]; decide) (by rw [h16_9]; decide) (by decide) ?_
                      refine lv_aload_n hx hb dX7_withTwo_135 rfl (lv_at hl 1 rfl) ?_
                      refine lv_iload_n hx hb dX7_withTwo_136 rfl (lv_at hl 3 rfl) ?_
                      refine lv_iload_n hx hb dX7_withTwo_137 rfl (lv_at hl 4 rfl) ?_
                      refine lv_iload hx hb dX7_withTwo_138 (lv_at hl 0 rfl) ?_
                      refine kcI (k := 12) (ci := 7) (As := [.int x2, .int x3, .int y0]) (rest := []) C w rfl rfl (c_Md_plus l A D cA tb ad mu nu x2 x3 y0) (cwV 3 hts gX7_withTwo_X7_plus rfl rfl rfl (by decide +kernel) ⟨Nat.le_of_ble_eq_true rfl, Nat.le_of_ble_eq_true rfl⟩) rfl rfl hl.1 (Nat.le_of_ble_eq_true rfl) dX7_withTwo_140 (fun H locs w => ?_)
                      exact retI C w dX7_withTwo_143
                    · rw [if_neg h16_9]
                      by_cases h16_10 : x1 = (10 : Int32)
                      · rw [if_pos h16_10]
                        refine lv_tableIn (off := 128) (tgt := 144) hx hb dX7_withTwo_16 (by rw [h16_10]; decide) (by rw [h16_10]; decide) (by rw [h16_10]; decide) (by decide) ?_
                        refine lv_aload_n hx hb dX7_withTwo_144 rfl (lv_at hl 1 rfl) ?_
                        refine lv_iload_n hx hb dX7_withTwo_145 rfl (lv_at hl 3 rfl) ?_
                        refine lv_iload_n hx hb dX7_withTwo_146 rfl (lv_at hl 4 rfl) ?_
                        refine lv_ior hx hb dX7_withTwo_147 ?_
                        refine kcI (k := 12) (ci := 7) (As := [.int ((x2 ||| x3))]) (rest := []) C w rfl rfl (c_Md_nzv l A D cA tb ad mu nu (x2 ||| x3)) (cwV 1 hts gX7_withTwo_X7_nzv rfl rfl rfl (by decide +kernel) ⟨Nat.le_of_ble_eq_true rfl, Nat.le_of_ble_eq_true rfl⟩) rfl rfl hl.1 (Nat.le_of_ble_eq_true rfl) dX7_withTwo_148 (fun H locs w => ?_)
                        exact retI C w dX7_withTwo_151
                      · rw [if_neg h16_10]
                        refine lv_tableOut (tgt := 152) hx hb dX7_withTwo_16 (by have := lv_neT h16_0 (a := 0) rfl; have := lv_neT h16_1 (a := 1) rfl; have := lv_neT h16_2 (a := 2) rfl; have := lv_neT h16_3 (a := 3) rfl; have := lv_neT h16_4 (a := 4) rfl; have := lv_neT h16_5 (a := 5) rfl; have := lv_neT h16_6 (a := 6) rfl; have := lv_neT h16_7 (a := 7) rfl; have := lv_neT h16_8 (a := 8) rfl; have := lv_neT h16_9 (a := 9) rfl; have := lv_neT h16_10 (a := 10) rfl; omega) (by decide) ?_
                        exact k_Md_withTwo_152 C w (lv_sub hl [1, 3, 4] rfl)
def F_Md_withTwo (x1 : Int32) (x2 : Int32) (x3 : Int32) (mu : Mu) : Int32 × Mu := (if (F_Md_is 1 mu) = (0 : Int32) then F_Md_withTwo_13 x1 x2 x3 0 mu else F_Md_withTwo_13 x1 x2 x3 1 mu)
set_option maxHeartbeats 4000000 in
set_option maxRecDepth 100000 in
theorem k_Md_withTwo (C : Cx cX7_withTwo 5 (some .int) wsX7_withTwo RX7 A D cA tb p s m args meth c) {mu nu : Mu} {x1 : Int32} {x2 : Int32} {x3 : Int32} {H : Heap} {locs : List Loc} {ls : Array Slot} (w : Wd A D cA ad s nu mu H locs) (hl : lv_has ls 5 [(0, .ref (ad 12)), (1, .int x1), (2, .int x2), (3, .int x3)]) : W p l e { frames := 3, cells := 0, slots := 0, locals := 67 } s m args below meth c H locs 0 0 (QI A D cA ad below args s (F_Md_withTwo x1 x2 x3 mu).1 nu (F_Md_withTwo x1 x2 x3 mu).2) (F0 m 0 ls []) := by
  have hx := C.1
  have hb := C.2.1
  have hts := C.2.2.2.2.2.1
  have hown := C.2.2.2.2.1
  unfold F_Md_withTwo
  refine lv_aload_n hx hb dX7_withTwo_0 rfl (lv_at hl 0 rfl) ?_
  refine lv_iconst (v := 1) hx hb dX7_withTwo_1 (by decide) ?_
  refine kcI (k := 12) (ci := 7) (As := [.int 1]) (rest := []) C w rfl rfl (c_Md_is l A D cA tb ad mu nu 1) (cwV 1 hts gX7_withTwo_X7_is rfl rfl rfl (by decide +kernel) ⟨Nat.le_of_ble_eq_true rfl, Nat.le_of_ble_eq_true rfl⟩) rfl rfl hl.1 (Nat.le_of_ble_eq_true rfl) dX7_withTwo_2 (fun H locs w => ?_)
  refine lv_if_eq (tgt := 12) hx hb dX7_withTwo_5 (by decide) (fun h5 => ?_) (fun h5 => ?_)
  · rw [if_pos h5]
    refine lv_iconst (v := 0) hx hb dX7_withTwo_12 (by decide) ?_
    exact k_Md_withTwo_13 C w (lv_sub hl [0, 1, 2, 3] rfl)
  · rw [if_neg h5]
    refine lv_iconst (v := 1) hx hb dX7_withTwo_8 (by decide) ?_
    refine lv_goto (tgt := 13) hx hb dX7_withTwo_9 (by decide) ?_
    exact k_Md_withTwo_13 C w (lv_sub hl [0, 1, 2, 3] rfl)
set_option maxHeartbeats 4000000 in
set_option maxRecDepth 100000 in
theorem c_Md_withTwo (l : Launch) (A : Nat → Prop) (D : va_G) (cA : Nat → ClassId) (tb : Nat) (ad : Nat → Nat) (mu nu : Mu) (x1 : Int32) (x2 : Int32) (x3 : Int32) : Met l yX7_withTwo wsX7_withTwo ({ frames := 3, cells := 0, slots := 0, locals := 67 }) (va_Pc [.ref (ad 12), .int x1, .int x2, .int x3] (Pw A D cA tb ad nu mu)) (va_Qi (fun (r : Int32) (u : Mu × Mu) => r = (F_Md_withTwo x1 x2 x3 mu).1 ∧ u = (nu, (F_Md_withTwo x1 x2 x3 mu).2)) (Bw A D cA ad) A) 0 0 A := by
  refine Met.ofW (cc := cX7_withTwo) (maxL := 5) (ret := (some .int)) (by decide) rfl ?_
  intro p e s m args below meth c s₁ B hml hv
  obtain ⟨rfl, w0⟩ := hv
  have C : Cx cX7_withTwo 5 (some .int) wsX7_withTwo RX7 A D cA tb p s m _ meth c := ⟨B.exec, B.bytes, B.returns, hml, findClass_of_methodNamed B.named, atoms_spec (ws := wsX7_withTwo) B.pre, B.notSynchronized, w0.2.1, w0.2.2.2.1, w0.2.2.2.2⟩
  have hl := lv_entry ([.ref (ad 12), .int x1, .int x2, .int x3]) (n := 5) (Nat.le_of_ble_eq_true rfl)
  rw [lg_entry_eq]
  exact k_Md_withTwo C w0.wd hl
def F_Md_worksOnTwo_140 (y1 : Int32) (mu : Mu) : Int32 × Mu := (1, (ps mu 12 2 y1))
set_option maxHeartbeats 4000000 in
set_option maxRecDepth 100000 in
theorem k_Md_worksOnTwo_140 (C : Cx cX7_worksOnTwo 6 (some .boolean) wsX7_worksOnTwo RX7 A D cA tb p s m args meth c) {mu nu : Mu} {y1 : Int32} {H : Heap} {locs : List Loc} {ls : Array Slot} (w : Wd A D cA ad s nu mu H locs) (hl : lv_has ls 6 []) : W p l e { frames := 8, cells := 0, slots := 0, locals := 174 } s m args below meth c H locs 0 0 (QI A D cA ad below args s (F_Md_worksOnTwo_140 y1 mu).1 nu (F_Md_worksOnTwo_140 y1 mu).2) (F0 m 140 ls [.int y1, .ref (ad 12)]) := by
  have hx := C.1
  have hb := C.2.1
  have hts := C.2.2.2.2.2.1
  have hown := C.2.2.2.2.1
  unfold F_Md_worksOnTwo_140
  refine pt_12_2 C (fun _ h => List.mem_cons_of_mem _ (List.mem_append_right _ h)) (hts _ (List.mem_of_getElem? (i := 2) rfl)) w dX7_worksOnTwo_140 (fun H locs w => ?_)
  refine lv_iconst (v := 1) hx hb dX7_worksOnTwo_143 (by decide) ?_
  exact retZ C w dX7_worksOnTwo_144 (Or.inr rfl)
def F_Md_worksOnTwo_137 (y2 : Int32) (y3 : Int32) (y4 : Int32) (mu : Mu) : Int32 × Mu := F_Md_worksOnTwo_140 ((F_Md_withTwo y2 y3 y4 mu).1) ((F_Md_withTwo y2 y3 y4 mu).2)
set_option maxHeartbeats 4000000 in
set_option maxRecDepth 100000 in
theorem k_Md_worksOnTwo_137 (C : Cx cX7_worksOnTwo 6 (some .boolean) wsX7_worksOnTwo RX7 A D cA tb p s m args meth c) {mu nu : Mu} {y2 : Int32} {y3 : Int32} {y4 : Int32} {H : Heap} {locs : List Loc} {ls : Array Slot} (w : Wd A D cA ad s nu mu H locs) (hl : lv_has ls 6 []) : W p l e { frames := 8, cells := 0, slots := 0, locals := 174 } s m args below meth c H locs 0 0 (QI A D cA ad below args s (F_Md_worksOnTwo_137 y2 y3 y4 mu).1 nu (F_Md_worksOnTwo_137 y2 y3 y4 mu).2) (F0 m 137 ls [.int y4, .int y3, .int y2, .ref (ad 12), .ref (ad 12)]) := by
  have hx := C.1
  have hb := C.2.1
  have hts := C.2.2.2.2.2.1
  have hown := C.2.2.2.2.1
  unfold F_Md_worksOnTwo_137
  refine kcI (k := 12) (ci := 7) (As := [.int y2, .int y3, .int y4]) (rest := [.ref (ad 12)]) C w rfl rfl (c_Md_withTwo l A D cA tb ad mu nu y2 y3 y4) (cwV 3 hts gX7_worksOnTwo_X7_withTwo rfl rfl rfl (by decide +kernel) ⟨Nat.le_of_ble_eq_true rfl, Nat.le_of_ble_eq_true rfl⟩) rfl rfl hl.1 (Nat.le_of_ble_eq_true rfl) dX7_worksOnTwo_137 (fun H locs w => ?_)
  exact k_Md_worksOnTwo_140 C w (lv_sub hl [] rfl)
def F_Md_worksOnTwo_119 (y1 : Int32) (mu : Mu) : Int32 × Mu := (1, (ps mu 12 3 y1))
set_option maxHeartbeats 4000000 in
set_option maxRecDepth 100000 in
theorem k_Md_worksOnTwo_119 (C : Cx cX7_worksOnTwo 6 (some .boolean) wsX7_worksOnTwo RX7 A D cA tb p s m args meth c) {mu nu : Mu} {y1 : Int32} {H : Heap} {locs : List Loc} {ls : Array Slot} (w : Wd A D cA ad s nu mu H locs) (hl : lv_has ls 6 []) : W p l e { frames := 8, cells := 0, slots := 0, locals := 174 } s m args below meth c H locs 0 0 (QI A D cA ad below args s (F_Md_worksOnTwo_119 y1 mu).1 nu (F_Md_worksOnTwo_119 y1 mu).2) (F0 m 119 ls [.int y1, .ref (ad 12)]) := by
  have hx := C.1
  have hb := C.2.1
  have hts := C.2.2.2.2.2.1
  have hown := C.2.2.2.2.1
  unfold F_Md_worksOnTwo_119
  refine pt_12_3 C (fun _ h => List.mem_cons_of_mem _ (List.mem_append_right _ h)) (hts _ (List.mem_of_getElem? (i := 1) rfl)) w dX7_worksOnTwo_119 (fun H locs w => ?_)
  refine lv_goto (tgt := 143) hx hb dX7_worksOnTwo_122 (by decide) ?_
  refine lv_iconst (v := 1) hx hb dX7_worksOnTwo_143 (by decide) ?_
  exact retZ C w dX7_worksOnTwo_144 (Or.inr rfl)
def F_Md_worksOnTwo_116 (y2 : Int32) (y3 : Int32) (y4 : Int32) (mu : Mu) : Int32 × Mu := F_Md_worksOnTwo_119 ((F_Md_withTwo y2 y3 y4 mu).1) ((F_Md_withTwo y2 y3 y4 mu).2)
set_option maxHeartbeats 4000000 in
set_option maxRecDepth 100000 in
theorem k_Md_worksOnTwo_116 (C : Cx cX7_worksOnTwo 6 (some .boolean) wsX7_worksOnTwo RX7 A D cA tb p s m args meth c) {mu nu : Mu} {y2 : Int32} {y3 : Int32} {y4 : Int32} {H : Heap} {locs : List Loc} {ls : Array Slot} (w : Wd A D cA ad s nu mu H locs) (hl : lv_has ls 6 []) : W p l e { frames := 8, cells := 0, slots := 0, locals := 174 } s m args below meth c H locs 0 0 (QI A D cA ad below args s (F_Md_worksOnTwo_116 y2 y3 y4 mu).1 nu (F_Md_worksOnTwo_116 y2 y3 y4 mu).2) (F0 m 116 ls [.int y4, .int y3, .int y2, .ref (ad 12), .ref (ad 12)]) := by
  have hx := C.1
  have hb := C.2.1
  have hts := C.2.2.2.2.2.1
  have hown := C.2.2.2.2.1
  unfold F_Md_worksOnTwo_116
  refine kcI (k := 12) (ci := 7) (As := [.int y2, .int y3, .int y4]) (rest := [.ref (ad 12)]) C w rfl rfl (c_Md_withTwo l A D cA tb ad mu nu y2 y3 y4) (cwV 3 hts gX7_worksOnTwo_X7_withTwo rfl rfl rfl (by decide +kernel) ⟨Nat.le_of_ble_eq_true rfl, Nat.le_of_ble_eq_true rfl⟩) rfl rfl hl.1 (Nat.le_of_ble_eq_true rfl) dX7_worksOnTwo_116 (fun H locs w => ?_)
  exact k_Md_worksOnTwo_119 C w (lv_sub hl [] rfl)
def F_Md_worksOnTwo_93 (y1 : Int32) (y2 : Int32) (mu : Mu) : Int32 × Mu := (1, (F_Md_write y1 y2 mu))
set_option maxHeartbeats 4000000 in
set_option maxRecDepth 100000 in
theorem k_Md_worksOnTwo_93 (C : Cx cX7_worksOnTwo 6 (some .boolean) wsX7_worksOnTwo RX7 A D cA tb p s m args meth c) {mu nu : Mu} {y1 : Int32} {y2 : Int32} {H : Heap} {locs : List Loc} {ls : Array Slot} (w : Wd A D cA ad s nu mu H locs) (hl : lv_has ls 6 []) : W p l e { frames := 8, cells := 0, slots := 0, locals := 174 } s m args below meth c H locs 0 0 (QI A D cA ad below args s (F_Md_worksOnTwo_93 y1 y2 mu).1 nu (F_Md_worksOnTwo_93 y1 y2 mu).2) (F0 m 93 ls [.int y2, .int y1, .ref (ad 12)]) := by
  have hx := C.1
  have hb := C.2.1
  have hts := C.2.2.2.2.2.1
  have hown := C.2.2.2.2.1
  unfold F_Md_worksOnTwo_93
  refine kcV (k := 12) (ci := 7) (As := [.int y1, .int y2]) (rest := []) C w rfl rfl (c_Md_write l A D cA tb ad mu nu y1 y2) (cwV 2 hts gX7_worksOnTwo_X7_write rfl rfl rfl (by decide +kernel) ⟨Nat.le_of_ble_eq_true rfl, Nat.le_of_ble_eq_true rfl⟩) rfl rfl hl.1 (Nat.le_of_ble_eq_true rfl) dX7_worksOnTwo_93 (fun H locs w => ?_)
  refine lv_goto (tgt := 143) hx hb dX7_worksOnTwo_96 (by decide) ?_
  refine lv_iconst (v := 1) hx hb dX7_worksOnTwo_143 (by decide) ?_
  exact retZ C w dX7_worksOnTwo_144 (Or.inr rfl)
def F_Md_worksOnTwo_90 (y1 : Int32) (y3 : Int32) (mu : Mu) : Int32 × Mu := F_Md_worksOnTwo_93 y1 ((F_Md_nzv y3 mu).1) ((F_Md_nzv y3 mu).2)
set_option maxHeartbeats 4000000 in
set_option maxRecDepth 100000 in
theorem k_Md_worksOnTwo_90 (C : Cx cX7_worksOnTwo 6 (some .boolean) wsX7_worksOnTwo RX7 A D cA tb p s m args meth c) {mu nu : Mu} {y1 : Int32} {y3 : Int32} {H : Heap} {locs : List Loc} {ls : Array Slot} (w : Wd A D cA ad s nu mu H locs) (hl : lv_has ls 6 []) : W p l e { frames := 8, cells := 0, slots := 0, locals := 174 } s m args below meth c H locs 0 0 (QI A D cA ad below args s (F_Md_worksOnTwo_90 y1 y3 mu).1 nu (F_Md_worksOnTwo_90 y1 y3 mu).2) (F0 m 90 ls [.int y3, .ref (ad 12), .int y1, .ref (ad 12)]) := by
  have hx := C.1
  have hb := C.2.1
  have hts := C.2.2.2.2.2.1
  have hown := C.2.2.2.2.1
  unfold F_Md_worksOnTwo_90
  refine kcI (k := 12) (ci := 7) (As := [.int y3]) (rest := [.int y1, .ref (ad 12)]) C w rfl rfl (c_Md_nzv l A D cA tb ad mu nu y3) (cwV 1 hts gX7_worksOnTwo_X7_nzv rfl rfl rfl (by decide +kernel) ⟨Nat.le_of_ble_eq_true rfl, Nat.le_of_ble_eq_true rfl⟩) rfl rfl hl.1 (Nat.le_of_ble_eq_true rfl) dX7_worksOnTwo_90 (fun H locs w => ?_)
  exact k_Md_worksOnTwo_93 C w (lv_sub hl [] rfl)
def F_Md_worksOnTwo_68 (x4 : Int32) (y0 : Int32) (mu : Mu) : Int32 × Mu := (if x4 = (0 : Int32) then F_Md_worksOnTwo_90 y0 (mu 12 2) mu else F_Md_worksOnTwo_90 y0 (mu 12 3) mu)
set_option maxHeartbeats 4000000 in
set_option maxRecDepth 100000 in
theorem k_Md_worksOnTwo_68 (C : Cx cX7_worksOnTwo 6 (some .boolean) wsX7_worksOnTwo RX7 A D cA tb p s m args meth c) {mu nu : Mu} {x4 : Int32} {y0 : Int32} {H : Heap} {locs : List Loc} {ls : Array Slot} (w : Wd A D cA ad s nu mu H locs) (hl : lv_has ls 6 [(0, .ref (ad 12)), (4, .int x4)]) : W p l e { frames := 8, cells := 0, slots := 0, locals := 174 } s m args below meth c H locs 0 0 (QI A D cA ad below args s (F_Md_worksOnTwo_68 x4 y0 mu).1 nu (F_Md_worksOnTwo_68 x4 y0 mu).2) (F0 m 68 ls [.int y0]) := by
  have hx := C.1
  have hb := C.2.1
  have hts := C.2.2.2.2.2.1
  have hown := C.2.2.2.2.1
  unfold F_Md_worksOnTwo_68
  refine lv_istore (lv' := [(5, .int y0), (0, .ref (ad 12)), (4, .int x4)]) hx hb dX7_worksOnTwo_68 hl (by decide) rfl (fun ls hl => ?_)
  refine lv_aload_n hx hb dX7_worksOnTwo_70 rfl (lv_at hl 1 rfl) ?_
  refine lv_iload hx hb dX7_worksOnTwo_71 (lv_at hl 0 rfl) ?_
  refine lv_aload_n hx hb dX7_worksOnTwo_73 rfl (lv_at hl 1 rfl) ?_
  refine lv_iload hx hb dX7_worksOnTwo_74 (lv_at hl 2 rfl) ?_
  refine lv_if_eq (tgt := 86) hx hb dX7_worksOnTwo_76 (by decide) (fun h76 => ?_) (fun h76 => ?_)
  · rw [if_pos h76]
    refine lv_aload_n hx hb dX7_worksOnTwo_86 rfl (lv_at hl 1 rfl) ?_
    refine gt_12_2 C (fun _ h => List.mem_cons_of_mem _ (List.mem_append_right _ h)) (hts _ (List.mem_of_getElem? (i := 2) rfl)) w (v := (mu 12 2)) rfl dX7_worksOnTwo_87 ?_
    exact k_Md_worksOnTwo_90 C w (lv_sub hl [] rfl)
  · rw [if_neg h76]
    refine lv_aload_n hx hb dX7_worksOnTwo_79 rfl (lv_at hl 1 rfl) ?_
    refine gt_12_3 C (fun _ h => List.mem_cons_of_mem _ (List.mem_append_right _ h)) (hts _ (List.mem_of_getElem? (i := 1) rfl)) w (v := (mu 12 3)) rfl dX7_worksOnTwo_80 ?_
    refine lv_goto (tgt := 90) hx hb dX7_worksOnTwo_83 (by decide) ?_
    exact k_Md_worksOnTwo_90 C w (lv_sub hl [] rfl)
def F_Md_worksOnTwo_57 (x2 : Int32) (x3 : Int32) (x4 : Int32) (mu : Mu) : Int32 × Mu := (if x2 = (7 : Int32) then F_Md_worksOnTwo_68 x4 ((F_Md_addressOf x3 mu).1) ((F_Md_addressOf x3 mu).2) else (if x4 = (0 : Int32) then F_Md_worksOnTwo_137 x2 (mu 12 2) ((F_Md_operand x3 mu).1) ((F_Md_operand x3 mu).2) else F_Md_worksOnTwo_116 x2 (mu 12 3) ((F_Md_operand x3 mu).1) ((F_Md_operand x3 mu).2)))
set_option maxHeartbeats 4000000 in
set_option maxRecDepth 100000 in
theorem k_Md_worksOnTwo_57 (C : Cx cX7_worksOnTwo 6 (some .boolean) wsX7_worksOnTwo RX7 A D cA tb p s m args meth c) {mu nu : Mu} {x2 : Int32} {x3 : Int32} {x4 : Int32} {H : Heap} {locs : List Loc} {ls : Array Slot} (w : Wd A D cA ad s nu mu H locs) (hl : lv_has ls 6 [(0, .ref (ad 12)), (2, .int x2), (3, .int x3), (4, .int x4)]) : W p l e { frames := 8, cells := 0, slots := 0, locals := 174 } s m args below meth c H locs 0 0 (QI A D cA ad below args s (F_Md_worksOnTwo_57 x2 x3 x4 mu).1 nu (F_Md_worksOnTwo_57 x2 x3 x4 mu).2) (F0 m 57 ls []) := by
  have hx := C.1
  have hb := C.2.1
  have hts := C.2.2.2.2.2.1
  have hown := C.2.2.2.2.1
  unfold F_Md_worksOnTwo_57
  refine lv_iload_n hx hb dX7_worksOnTwo_57 rfl (lv_at hl 1 rfl) ?_
  refine lv_bipush (v := 7) hx hb dX7_worksOnTwo_58 (by decide) ?_
  refine lv_icmp_ne (tgt := 99) hx hb dX7_worksOnTwo_60 (by decide) (fun h60 => ?_) (fun h60 => ?_)
  · rw [if_neg h60]
    refine lv_iload hx hb dX7_worksOnTwo_99 (lv_at hl 3 rfl) ?_
    refine lv_if_eq (tgt := 125) hx hb dX7_worksOnTwo_101 (by decide) (fun h101 => ?_) (fun h101 => ?_)
    · rw [if_pos h101]
      refine lv_aload_n hx hb dX7_worksOnTwo_125 rfl (lv_at hl 0 rfl) ?_
      refine lv_aload_n hx hb dX7_worksOnTwo_126 rfl (lv_at hl 0 rfl) ?_
      refine lv_iload_n hx hb dX7_worksOnTwo_127 rfl (lv_at hl 1 rfl) ?_
      refine lv_aload_n hx hb dX7_worksOnTwo_128 rfl (lv_at hl 0 rfl) ?_
      refine gt_12_2 C (fun _ h => List.mem_cons_of_mem _ (List.mem_append_right _ h)) (hts _ (List.mem_of_getElem? (i := 2) rfl)) w (v := (mu 12 2)) rfl dX7_worksOnTwo_129 ?_
      refine lv_aload_n hx hb dX7_worksOnTwo_132 rfl (lv_at hl 0 rfl) ?_
      refine lv_iload_n hx hb dX7_worksOnTwo_133 rfl (lv_at hl 2 rfl) ?_
      refine kcI (k := 12) (ci := 7) (As := [.int x3]) (rest := [.int ((mu 12 2)), .int x2, .ref (ad 12), .ref (ad 12)]) C w rfl rfl (c_Md_operand l A D cA tb ad mu nu x3) (cwV 1 hts gX7_worksOnTwo_X7_operand rfl rfl rfl (by decide +kernel) ⟨Nat.le_of_ble_eq_true rfl, Nat.le_of_ble_eq_true rfl⟩) rfl rfl hl.1 (Nat.le_of_ble_eq_true rfl) dX7_worksOnTwo_134 (fun H locs w => ?_)
      exact k_Md_worksOnTwo_137 C w (lv_sub hl [] rfl)
    · rw [if_neg h101]
      refine lv_aload_n hx hb dX7_worksOnTwo_104 rfl (lv_at hl 0 rfl) ?_
      refine lv_aload_n hx hb dX7_worksOnTwo_105 rfl (lv_at hl 0 rfl) ?_
      refine lv_iload_n hx hb dX7_worksOnTwo_106 rfl (lv_at hl 1 rfl) ?_
      refine lv_aload_n hx hb dX7_worksOnTwo_107 rfl (lv_at hl 0 rfl) ?_
      refine gt_12_3 C (fun _ h => List.mem_cons_of_mem _ (List.mem_append_right _ h)) (hts _ (List.mem_of_getElem? (i := 1) rfl)) w (v := (mu 12 3)) rfl dX7_worksOnTwo_108 ?_
      refine lv_aload_n hx hb dX7_worksOnTwo_111 rfl (lv_at hl 0 rfl) ?_
      refine lv_iload_n hx hb dX7_worksOnTwo_112 rfl (lv_at hl 2 rfl) ?_
      refine kcI (k := 12) (ci := 7) (As := [.int x3]) (rest := [.int ((mu 12 3)), .int x2, .ref (ad 12), .ref (ad 12)]) C w rfl rfl (c_Md_operand l A D cA tb ad mu nu x3) (cwV 1 hts gX7_worksOnTwo_X7_operand rfl rfl rfl (by decide +kernel) ⟨Nat.le_of_ble_eq_true rfl, Nat.le_of_ble_eq_true rfl⟩) rfl rfl hl.1 (Nat.le_of_ble_eq_true rfl) dX7_worksOnTwo_113 (fun H locs w => ?_)
      exact k_Md_worksOnTwo_116 C w (lv_sub hl [] rfl)
  · rw [if_pos h60]
    refine lv_aload_n hx hb dX7_worksOnTwo_63 rfl (lv_at hl 0 rfl) ?_
    refine lv_iload_n hx hb dX7_worksOnTwo_64 rfl (lv_at hl 2 rfl) ?_
    refine kcI (k := 12) (ci := 7) (As := [.int x3]) (rest := []) C w rfl rfl (c_Md_addressOf l A D cA tb ad mu nu x3) (cwV 1 hts gX7_worksOnTwo_X7_addressOf rfl rfl rfl (by decide +kernel) ⟨Nat.le_of_ble_eq_true rfl, Nat.le_of_ble_eq_true rfl⟩) rfl rfl hl.1 (Nat.le_of_ble_eq_true rfl) dX7_worksOnTwo_65 (fun H locs w => ?_)
    exact k_Md_worksOnTwo_68 C w (lv_sub hl [0, 3] rfl)
def F_Md_worksOnTwo_23 (x2 : Int32) (x3 : Int32) (y0 : Int32) (mu : Mu) : Int32 × Mu := (if x2 < (12 : Int32) then (if x2 = (3 : Int32) then (0, mu) else (if x2 = (7 : Int32) then (if x3 = (0 : Int32) then (0, mu) else F_Md_worksOnTwo_57 x2 x3 y0 mu) else F_Md_worksOnTwo_57 x2 x3 y0 mu)) else ((F_Md_withWords x2 x3 y0 mu).1, (F_Md_withWords x2 x3 y0 mu).2))
set_option maxHeartbeats 4000000 in
set_option maxRecDepth 100000 in
theorem k_Md_worksOnTwo_23 (C : Cx cX7_worksOnTwo 6 (some .boolean) wsX7_worksOnTwo RX7 A D cA tb p s m args meth c) {mu nu : Mu} {x2 : Int32} {x3 : Int32} {y0 : Int32} {H : Heap} {locs : List Loc} {ls : Array Slot} (w : Wd A D cA ad s nu mu H locs) (hl : lv_has ls 6 [(0, .ref (ad 12)), (2, .int x2), (3, .int x3)]) : W p l e { frames := 8, cells := 0, slots := 0, locals := 174 } s m args below meth c H locs 0 0 (QI A D cA ad below args s (F_Md_worksOnTwo_23 x2 x3 y0 mu).1 nu (F_Md_worksOnTwo_23 x2 x3 y0 mu).2) (F0 m 23 ls [.int y0]) := by
  have hx := C.1
  have hb := C.2.1
  have hts := C.2.2.2.2.2.1
  have hown := C.2.2.2.2.1
  unfold F_Md_worksOnTwo_23
  refine lv_istore (lv' := [(4, .int y0), (0, .ref (ad 12)), (2, .int x2), (3, .int x3)]) hx hb dX7_worksOnTwo_23 hl (by decide) rfl (fun ls hl => ?_)
  refine lv_iload_n hx hb dX7_worksOnTwo_25 rfl (lv_at hl 2 rfl) ?_
  refine lv_bipush (v := 12) hx hb dX7_worksOnTwo_26 (by decide) ?_
  refine lv_icmp_lt (tgt := 40) hx hb dX7_worksOnTwo_28 (by decide) (fun h28 => ?_) (fun h28 => ?_)
  · rw [if_pos h28]
    refine lv_iload_n hx hb dX7_worksOnTwo_40 rfl (lv_at hl 2 rfl) ?_
    refine lv_iconst (v := 3) hx hb dX7_worksOnTwo_41 (by decide) ?_
    refine lv_icmp_eq (tgt := 55) hx hb dX7_worksOnTwo_42 (by decide) (fun h42 => ?_) (fun h42 => ?_)
    · rw [if_pos h42]
      refine lv_iconst (v := 0) hx hb dX7_worksOnTwo_55 (by decide) ?_
      exact retZ C w dX7_worksOnTwo_56 (Or.inl rfl)
    · rw [if_neg h42]
      refine lv_iload_n hx hb dX7_worksOnTwo_45 rfl (lv_at hl 2 rfl) ?_
      refine lv_bipush (v := 7) hx hb dX7_worksOnTwo_46 (by decide) ?_
      refine lv_icmp_ne (tgt := 57) hx hb dX7_worksOnTwo_48 (by decide) (fun h48 => ?_) (fun h48 => ?_)
      · rw [if_neg h48]
        exact k_Md_worksOnTwo_57 C w (lv_sub hl [1, 2, 3, 0] rfl)
      · rw [if_pos h48]
        refine lv_iload_n hx hb dX7_worksOnTwo_51 rfl (lv_at hl 3 rfl) ?_
        refine lv_if_ne (tgt := 57) hx hb dX7_worksOnTwo_52 (by decide) (fun h52 => ?_) (fun h52 => ?_)
        · rw [if_neg h52]
          exact k_Md_worksOnTwo_57 C w (lv_sub hl [1, 2, 3, 0] rfl)
        · rw [if_pos h52]
          refine lv_iconst (v := 0) hx hb dX7_worksOnTwo_55 (by decide) ?_
          exact retZ C w dX7_worksOnTwo_56 (Or.inl rfl)
  · rw [if_neg h28]
    refine lv_aload_n hx hb dX7_worksOnTwo_31 rfl (lv_at hl 1 rfl) ?_
    refine lv_iload_n hx hb dX7_worksOnTwo_32 rfl (lv_at hl 2 rfl) ?_
    refine lv_iload_n hx hb dX7_worksOnTwo_33 rfl (lv_at hl 3 rfl) ?_
    refine lv_iload hx hb dX7_worksOnTwo_34 (lv_at hl 0 rfl) ?_
    refine kcI (k := 12) (ci := 7) (As := [.int x2, .int x3, .int y0]) (rest := []) C w rfl rfl (c_Md_withWords l A D cA tb ad mu nu x2 x3 y0) (cwV 3 hts gX7_worksOnTwo_X7_withWords rfl rfl rfl (by decide +kernel) ⟨Nat.le_of_ble_eq_true rfl, Nat.le_of_ble_eq_true rfl⟩) rfl rfl hl.1 (Nat.le_of_ble_eq_true rfl) dX7_worksOnTwo_36 (fun H locs w => ?_)
    exact retZ C w dX7_worksOnTwo_39 (by first | exact z_Md_withWords | exact z_Md_withWords _ | exact z_Md_withWords _ _ | exact z_Md_withWords _ _ _)
def F_Md_worksOnTwo (x1 : Int32) (mu : Mu) : Int32 × Mu := (if x1 < (192 : Int32) then F_Md_worksOnTwo_23 (x1 &&& 15) ((x1 >>> (4 &&& 31)) &&& 3) 0 mu else F_Md_worksOnTwo_23 (x1 &&& 15) ((x1 >>> (4 &&& 31)) &&& 3) 1 mu)
set_option maxHeartbeats 4000000 in
set_option maxRecDepth 100000 in
theorem k_Md_worksOnTwo (C : Cx cX7_worksOnTwo 6 (some .boolean) wsX7_worksOnTwo RX7 A D cA tb p s m args meth c) {mu nu : Mu} {x1 : Int32} {H : Heap} {locs : List Loc} {ls : Array Slot} (w : Wd A D cA ad s nu mu H locs) (hl : lv_has ls 6 [(0, .ref (ad 12)), (1, .int x1)]) : W p l e { frames := 8, cells := 0, slots := 0, locals := 174 } s m args below meth c H locs 0 0 (QI A D cA ad below args s (F_Md_worksOnTwo x1 mu).1 nu (F_Md_worksOnTwo x1 mu).2) (F0 m 0 ls []) := by
  have hx := C.1
  have hb := C.2.1
  have hts := C.2.2.2.2.2.1
  have hown := C.2.2.2.2.1
  unfold F_Md_worksOnTwo
  refine lv_iload_n hx hb dX7_worksOnTwo_0 rfl (lv_at hl 1 rfl) ?_
  refine lv_bipush (v := 15) hx hb dX7_worksOnTwo_1 (by decide) ?_
  refine lv_iand hx hb dX7_worksOnTwo_3 ?_
  refine lv_istore_n (lv' := [(2, .int ((x1 &&& 15))), (0, .ref (ad 12)), (1, .int x1)]) hx hb dX7_worksOnTwo_4 rfl hl (by decide) rfl (fun ls hl => ?_)
  refine lv_iload_n hx hb dX7_worksOnTwo_5 rfl (lv_at hl 2 rfl) ?_
  refine lv_iconst (v := 4) hx hb dX7_worksOnTwo_6 (by decide) ?_
  refine lv_ishr hx hb dX7_worksOnTwo_7 ?_
  refine lv_iconst (v := 3) hx hb dX7_worksOnTwo_8 (by decide) ?_
  refine lv_iand hx hb dX7_worksOnTwo_9 ?_
  refine lv_istore_n (lv' := [(3, .int (((x1 >>> (4 &&& 31)) &&& 3))), (2, .int ((x1 &&& 15))), (0, .ref (ad 12)), (1, .int x1)]) hx hb dX7_worksOnTwo_10 rfl hl (by decide) rfl (fun ls hl => ?_)
  refine lv_iload_n hx hb dX7_worksOnTwo_11 rfl (lv_at hl 3 rfl) ?_
  refine lv_sipush (v := 192) hx hb dX7_worksOnTwo_12 (by decide) ?_
  refine lv_icmp_lt (tgt := 22) hx hb dX7_worksOnTwo_15 (by decide) (fun h15 => ?_) (fun h15 => ?_)
  · rw [if_pos h15]
    refine lv_iconst (v := 0) hx hb dX7_worksOnTwo_22 (by decide) ?_
    exact k_Md_worksOnTwo_23 C w (lv_sub hl [2, 1, 0] rfl)
  · rw [if_neg h15]
    refine lv_iconst (v := 1) hx hb dX7_worksOnTwo_18 (by decide) ?_
    refine lv_goto (tgt := 23) hx hb dX7_worksOnTwo_19 (by decide) ?_
    exact k_Md_worksOnTwo_23 C w (lv_sub hl [2, 1, 0] rfl)
set_option maxHeartbeats 4000000 in
set_option maxRecDepth 100000 in
theorem c_Md_worksOnTwo (l : Launch) (A : Nat → Prop) (D : va_G) (cA : Nat → ClassId) (tb : Nat) (ad : Nat → Nat) (mu nu : Mu) (x1 : Int32) : Met l yX7_worksOnTwo wsX7_worksOnTwo ({ frames := 8, cells := 0, slots := 0, locals := 174 }) (va_Pc [.ref (ad 12), .int x1] (Pw A D cA tb ad nu mu)) (va_Qi (fun (r : Int32) (u : Mu × Mu) => r = (F_Md_worksOnTwo x1 mu).1 ∧ u = (nu, (F_Md_worksOnTwo x1 mu).2)) (Bw A D cA ad) A) 0 0 A := by
  refine Met.ofW (cc := cX7_worksOnTwo) (maxL := 6) (ret := (some .boolean)) (by decide) rfl ?_
  intro p e s m args below meth c s₁ B hml hv
  obtain ⟨rfl, w0⟩ := hv
  have C : Cx cX7_worksOnTwo 6 (some .boolean) wsX7_worksOnTwo RX7 A D cA tb p s m _ meth c := ⟨B.exec, B.bytes, B.returns, hml, findClass_of_methodNamed B.named, atoms_spec (ws := wsX7_worksOnTwo) B.pre, B.notSynchronized, w0.2.1, w0.2.2.2.1, w0.2.2.2.2⟩
  have hl := lv_entry ([.ref (ad 12), .int x1]) (n := 6) (Nat.le_of_ble_eq_true rfl)
  rw [lg_entry_eq]
  exact k_Md_worksOnTwo C w0.wd hl
def F_Md_instruction_100 (x1 : Int32) (x3 : Int32) (mu : Mu) : Mu := (if x3 = (0 : Int32) then (ps (ps mu 12 6 x1) 12 9 1) else mu)
set_option maxHeartbeats 4000000 in
set_option maxRecDepth 100000 in
theorem k_Md_instruction_100 (C : Cx cX7_instruction 4 none wsX7_instruction RX7 A D cA tb p s m args meth c) {mu nu : Mu} {x1 : Int32} {x3 : Int32} {H : Heap} {locs : List Loc} {ls : Array Slot} (w : Wd A D cA ad s nu mu H locs) (hl : lv_has ls 4 [(0, .ref (ad 12)), (1, .int x1), (3, .int x3)]) : W p l e { frames := 9, cells := 0, slots := 0, locals := 199 } s m args below meth c H locs 0 0 (QV A D cA ad below args s nu (F_Md_instruction_100 x1 x3 mu)) (F0 m 100 ls []) := by
  have hx := C.1
  have hb := C.2.1
  have hts := C.2.2.2.2.2.1
  have hown := C.2.2.2.2.1
  unfold F_Md_instruction_100
  refine lv_iload_n hx hb dX7_instruction_100 rfl (lv_at hl 2 rfl) ?_
  refine lv_if_eq (tgt := 105) hx hb dX7_instruction_101 (by decide) (fun h101 => ?_) (fun h101 => ?_)
  · rw [if_pos h101]
    refine lv_aload_n hx hb dX7_instruction_105 rfl (lv_at hl 0 rfl) ?_
    refine lv_iload_n hx hb dX7_instruction_106 rfl (lv_at hl 1 rfl) ?_
    refine pt_12_6 C (fun _ h => List.mem_cons_of_mem _ (List.mem_append_right _ h)) (hts _ (List.mem_of_getElem? (i := 1) rfl)) w dX7_instruction_107 (fun H locs w => ?_)
    refine lv_aload_n hx hb dX7_instruction_110 rfl (lv_at hl 0 rfl) ?_
    refine lv_iconst (v := 1) hx hb dX7_instruction_111 (by decide) ?_
    refine pt_12_9 C (fun _ h => List.mem_cons_of_mem _ (List.mem_append_right _ h)) (hts _ (List.mem_of_getElem? (i := 2) rfl)) w (Or.inr rfl) dX7_instruction_112 (fun H locs w => ?_)
    exact retV C w dX7_instruction_115
  · rw [if_neg h101]
    exact retV C w dX7_instruction_104
def F_Md_instruction_99 (x1 : Int32) (y0 : Int32) (mu : Mu) : Mu := F_Md_instruction_100 x1 y0 mu
set_option maxHeartbeats 4000000 in
set_option maxRecDepth 100000 in
theorem k_Md_instruction_99 (C : Cx cX7_instruction 4 none wsX7_instruction RX7 A D cA tb p s m args meth c) {mu nu : Mu} {x1 : Int32} {y0 : Int32} {H : Heap} {locs : List Loc} {ls : Array Slot} (w : Wd A D cA ad s nu mu H locs) (hl : lv_has ls 4 [(0, .ref (ad 12)), (1, .int x1)]) : W p l e { frames := 9, cells := 0, slots := 0, locals := 199 } s m args below meth c H locs 0 0 (QV A D cA ad below args s nu (F_Md_instruction_99 x1 y0 mu)) (F0 m 99 ls [.int y0]) := by
  have hx := C.1
  have hb := C.2.1
  have hts := C.2.2.2.2.2.1
  have hown := C.2.2.2.2.1
  unfold F_Md_instruction_99
  refine lv_istore_n (lv' := [(3, .int y0), (0, .ref (ad 12)), (1, .int x1)]) hx hb dX7_instruction_99 rfl hl (by decide) rfl (fun ls hl => ?_)
  exact k_Md_instruction_100 C w (lv_sub hl [1, 2, 0] rfl)
def F_Md_instruction_91 (x1 : Int32) (y0 : Int32) (mu : Mu) : Mu := F_Md_instruction_99 x1 y0 mu
set_option maxHeartbeats 4000000 in
set_option maxRecDepth 100000 in
theorem k_Md_instruction_91 (C : Cx cX7_instruction 4 none wsX7_instruction RX7 A D cA tb p s m args meth c) {mu nu : Mu} {x1 : Int32} {y0 : Int32} {H : Heap} {locs : List Loc} {ls : Array Slot} (w : Wd A D cA ad s nu mu H locs) (hl : lv_has ls 4 [(0, .ref (ad 12)), (1, .int x1)]) : W p l e { frames := 9, cells := 0, slots := 0, locals := 199 } s m args below meth c H locs 0 0 (QV A D cA ad below args s nu (F_Md_instruction_91 x1 y0 mu)) (F0 m 91 ls [.int y0]) := by
  have hx := C.1
  have hb := C.2.1
  have hts := C.2.2.2.2.2.1
  have hown := C.2.2.2.2.1
  unfold F_Md_instruction_91
  refine lv_goto (tgt := 99) hx hb dX7_instruction_91 (by decide) ?_
  exact k_Md_instruction_99 C w (lv_sub hl [0, 1] rfl)
def F_Md_instruction_75 (x1 : Int32) (y0 : Int32) (mu : Mu) : Mu := F_Md_instruction_100 x1 y0 mu
set_option maxHeartbeats 4000000 in
set_option maxRecDepth 100000 in
theorem k_Md_instruction_75 (C : Cx cX7_instruction 4 none wsX7_instruction RX7 A D cA tb p s m args meth c) {mu nu : Mu} {x1 : Int32} {y0 : Int32} {H : Heap} {locs : List Loc} {ls : Array Slot} (w : Wd A D cA ad s nu mu H locs) (hl : lv_has ls 4 [(0, .ref (ad 12)), (1, .int x1)]) : W p l e { frames := 9, cells := 0, slots := 0, locals := 199 } s m args below meth c H locs 0 0 (QV A D cA ad below args s nu (F_Md_instruction_75 x1 y0 mu)) (F0 m 75 ls [.int y0]) := by
  have hx := C.1
  have hb := C.2.1
  have hts := C.2.2.2.2.2.1
  have hown := C.2.2.2.2.1
  unfold F_Md_instruction_75
  refine lv_istore_n (lv' := [(3, .int y0), (0, .ref (ad 12)), (1, .int x1)]) hx hb dX7_instruction_75 rfl hl (by decide) rfl (fun ls hl => ?_)
  refine lv_goto (tgt := 100) hx hb dX7_instruction_76 (by decide) ?_
  exact k_Md_instruction_100 C w (lv_sub hl [1, 2, 0] rfl)
def F_Md_instruction_61 (x1 : Int32) (x3 : Int32) (mu : Mu) : Mu := F_Md_instruction_100 x1 x3 mu
set_option maxHeartbeats 4000000 in
set_option maxRecDepth 100000 in
theorem k_Md_instruction_61 (C : Cx cX7_instruction 4 none wsX7_instruction RX7 A D cA tb p s m args meth c) {mu nu : Mu} {x1 : Int32} {x3 : Int32} {H : Heap} {locs : List Loc} {ls : Array Slot} (w : Wd A D cA ad s nu mu H locs) (hl : lv_has ls 4 [(0, .ref (ad 12)), (1, .int x1), (3, .int x3)]) : W p l e { frames := 9, cells := 0, slots := 0, locals := 199 } s m args below meth c H locs 0 0 (QV A D cA ad below args s nu (F_Md_instruction_61 x1 x3 mu)) (F0 m 61 ls []) := by
  have hx := C.1
  have hb := C.2.1
  have hts := C.2.2.2.2.2.1
  have hown := C.2.2.2.2.1
  unfold F_Md_instruction_61
  refine lv_goto (tgt := 100) hx hb dX7_instruction_61 (by decide) ?_
  exact k_Md_instruction_100 C w (lv_sub hl [0, 1, 2] rfl)
def F_Md_instruction_44 (x1 : Int32) (x2 : Int32) (y0 : Int32) (mu : Mu) : Mu := (if y0 = (0 : Int32) then F_Md_instruction_100 x1 y0 mu else F_Md_instruction_61 x1 y0 (F_Md_branch (F_Md_branches (x2 &&& 15) mu) mu))
set_option maxHeartbeats 4000000 in
set_option maxRecDepth 100000 in
theorem k_Md_instruction_44 (C : Cx cX7_instruction 4 none wsX7_instruction RX7 A D cA tb p s m args meth c) {mu nu : Mu} {x1 : Int32} {x2 : Int32} {y0 : Int32} {H : Heap} {locs : List Loc} {ls : Array Slot} (w : Wd A D cA ad s nu mu H locs) (hl : lv_has ls 4 [(0, .ref (ad 12)), (1, .int x1), (2, .int x2)]) : W p l e { frames := 9, cells := 0, slots := 0, locals := 199 } s m args below meth c H locs 0 0 (QV A D cA ad below args s nu (F_Md_instruction_44 x1 x2 y0 mu)) (F0 m 44 ls [.int y0]) := by
  have hx := C.1
  have hb := C.2.1
  have hts := C.2.2.2.2.2.1
  have hown := C.2.2.2.2.1
  unfold F_Md_instruction_44
  refine lv_istore_n (lv' := [(3, .int y0), (0, .ref (ad 12)), (1, .int x1), (2, .int x2)]) hx hb dX7_instruction_44 rfl hl (by decide) rfl (fun ls hl => ?_)
  refine lv_iload_n hx hb dX7_instruction_45 rfl (lv_at hl 0 rfl) ?_
  refine lv_if_eq (tgt := 100) hx hb dX7_instruction_46 (by decide) (fun h46 => ?_) (fun h46 => ?_)
  · rw [if_pos h46]
    exact k_Md_instruction_100 C w (lv_sub hl [1, 2, 0] rfl)
  · rw [if_neg h46]
    refine lv_aload_n hx hb dX7_instruction_49 rfl (lv_at hl 1 rfl) ?_
    refine lv_aload_n hx hb dX7_instruction_50 rfl (lv_at hl 1 rfl) ?_
    refine lv_iload_n hx hb dX7_instruction_51 rfl (lv_at hl 3 rfl) ?_
    refine lv_bipush (v := 15) hx hb dX7_instruction_52 (by decide) ?_
    refine lv_iand hx hb dX7_instruction_54 ?_
    refine kcI (k := 12) (ci := 7) (As := [.int ((x2 &&& 15))]) (rest := [.ref (ad 12)]) C w rfl rfl (c_Md_branches l A D cA tb ad mu nu (x2 &&& 15)) (cwV 1 hts gX7_instruction_X7_branches rfl rfl rfl (by decide +kernel) ⟨Nat.le_of_ble_eq_true rfl, Nat.le_of_ble_eq_true rfl⟩) rfl rfl hl.1 (Nat.le_of_ble_eq_true rfl) dX7_instruction_55 (fun H locs w => ?_)
    refine kcV (k := 12) (ci := 7) (As := [.int ((F_Md_branches (x2 &&& 15) mu))]) (rest := []) C w rfl rfl (c_Md_branch l A D cA tb ad mu nu (F_Md_branches (x2 &&& 15) mu)) (cwV 1 hts gX7_instruction_X7_branch rfl rfl rfl (by decide +kernel) ⟨Nat.le_of_ble_eq_true rfl, Nat.le_of_ble_eq_true rfl⟩) rfl rfl hl.1 (Nat.le_of_ble_eq_true rfl) dX7_instruction_58 (fun H locs w => ?_)
    exact k_Md_instruction_61 C w (lv_sub hl [1, 2, 0] rfl)
def F_Md_instruction_23 (x1 : Int32) (y0 : Int32) (mu : Mu) : Mu := F_Md_instruction_100 x1 y0 mu
set_option maxHeartbeats 4000000 in
set_option maxRecDepth 100000 in
theorem k_Md_instruction_23 (C : Cx cX7_instruction 4 none wsX7_instruction RX7 A D cA tb p s m args meth c) {mu nu : Mu} {x1 : Int32} {y0 : Int32} {H : Heap} {locs : List Loc} {ls : Array Slot} (w : Wd A D cA ad s nu mu H locs) (hl : lv_has ls 4 [(0, .ref (ad 12)), (1, .int x1)]) : W p l e { frames := 9, cells := 0, slots := 0, locals := 199 } s m args below meth c H locs 0 0 (QV A D cA ad below args s nu (F_Md_instruction_23 x1 y0 mu)) (F0 m 23 ls [.int y0]) := by
  have hx := C.1
  have hb := C.2.1
  have hts := C.2.2.2.2.2.1
  have hown := C.2.2.2.2.1
  unfold F_Md_instruction_23
  refine lv_istore_n (lv' := [(3, .int y0), (0, .ref (ad 12)), (1, .int x1)]) hx hb dX7_instruction_23 rfl hl (by decide) rfl (fun ls hl => ?_)
  refine lv_goto (tgt := 100) hx hb dX7_instruction_24 (by decide) ?_
  exact k_Md_instruction_100 C w (lv_sub hl [1, 2, 0] rfl)
def F_Md_instruction_9 (x1 : Int32) (y0 : Int32) (mu : Mu) : Mu := (if (32 : Int32) ≤ y0 then (if (48 : Int32) ≤ y0 then (if (64 : Int32) ≤ y0 then (if (128 : Int32) ≤ y0 then F_Md_instruction_99 x1 ((F_Md_worksOnTwo y0 mu).1) ((F_Md_worksOnTwo y0 mu).2) else F_Md_instruction_91 x1 ((F_Md_worksOnOne y0 mu).1) ((F_Md_worksOnOne y0 mu).2)) else F_Md_instruction_75 x1 ((F_Md_stacked y0 mu).1) ((F_Md_stacked y0 mu).2)) else (if y0 = (33 : Int32) then F_Md_instruction_44 x1 y0 0 mu else F_Md_instruction_44 x1 y0 1 mu)) else F_Md_instruction_23 x1 ((F_Md_first y0 mu).1) ((F_Md_first y0 mu).2))
set_option maxHeartbeats 4000000 in
set_option maxRecDepth 100000 in
theorem k_Md_instruction_9 (C : Cx cX7_instruction 4 none wsX7_instruction RX7 A D cA tb p s m args meth c) {mu nu : Mu} {x1 : Int32} {y0 : Int32} {H : Heap} {locs : List Loc} {ls : Array Slot} (w : Wd A D cA ad s nu mu H locs) (hl : lv_has ls 4 [(0, .ref (ad 12)), (1, .int x1)]) : W p l e { frames := 9, cells := 0, slots := 0, locals := 199 } s m args below meth c H locs 0 0 (QV A D cA ad below args s nu (F_Md_instruction_9 x1 y0 mu)) (F0 m 9 ls [.int y0]) := by
  have hx := C.1
  have hb := C.2.1
  have hts := C.2.2.2.2.2.1
  have hown := C.2.2.2.2.1
  unfold F_Md_instruction_9
  refine lv_istore_n (lv' := [(2, .int y0), (0, .ref (ad 12)), (1, .int x1)]) hx hb dX7_instruction_9 rfl hl (by decide) rfl (fun ls hl => ?_)
  refine lv_iconst (v := 1) hx hb dX7_instruction_10 (by decide) ?_
  refine lv_istore_n (lv' := [(3, .int 1), (2, .int y0), (0, .ref (ad 12)), (1, .int x1)]) hx hb dX7_instruction_11 rfl hl (by decide) rfl (fun ls hl => ?_)
  refine lv_iload_n hx hb dX7_instruction_12 rfl (lv_at hl 1 rfl) ?_
  refine lv_bipush (v := 32) hx hb dX7_instruction_13 (by decide) ?_
  refine lv_icmp_ge (tgt := 27) hx hb dX7_instruction_15 (by decide) (fun h15 => ?_) (fun h15 => ?_)
  · rw [if_pos h15]
    refine lv_iload_n hx hb dX7_instruction_27 rfl (lv_at hl 1 rfl) ?_
    refine lv_bipush (v := 48) hx hb dX7_instruction_28 (by decide) ?_
    refine lv_icmp_ge (tgt := 64) hx hb dX7_instruction_30 (by decide) (fun h30 => ?_) (fun h30 => ?_)
    · rw [if_pos h30]
      refine lv_iload_n hx hb dX7_instruction_64 rfl (lv_at hl 1 rfl) ?_
      refine lv_bipush (v := 64) hx hb dX7_instruction_65 (by decide) ?_
      refine lv_icmp_ge (tgt := 79) hx hb dX7_instruction_67 (by decide) (fun h67 => ?_) (fun h67 => ?_)
      · rw [if_pos h67]
        refine lv_iload_n hx hb dX7_instruction_79 rfl (lv_at hl 1 rfl) ?_
        refine lv_sipush (v := 128) hx hb dX7_instruction_80 (by decide) ?_
        refine lv_icmp_ge (tgt := 94) hx hb dX7_instruction_83 (by decide) (fun h83 => ?_) (fun h83 => ?_)
        · rw [if_pos h83]
          refine lv_aload_n hx hb dX7_instruction_94 rfl (lv_at hl 2 rfl) ?_
          refine lv_iload_n hx hb dX7_instruction_95 rfl (lv_at hl 1 rfl) ?_
          refine kcI (k := 12) (ci := 7) (As := [.int y0]) (rest := []) C w rfl rfl (c_Md_worksOnTwo l A D cA tb ad mu nu y0) (cwV 1 hts gX7_instruction_X7_worksOnTwo rfl rfl rfl (by decide +kernel) ⟨Nat.le_of_ble_eq_true rfl, Nat.le_of_ble_eq_true rfl⟩) rfl rfl hl.1 (Nat.le_of_ble_eq_true rfl) dX7_instruction_96 (fun H locs w => ?_)
          exact k_Md_instruction_99 C w (lv_sub hl [2, 3] rfl)
        · rw [if_neg h83]
          refine lv_aload_n hx hb dX7_instruction_86 rfl (lv_at hl 2 rfl) ?_
          refine lv_iload_n hx hb dX7_instruction_87 rfl (lv_at hl 1 rfl) ?_
          refine kcI (k := 12) (ci := 7) (As := [.int y0]) (rest := []) C w rfl rfl (c_Md_worksOnOne l A D cA tb ad mu nu y0) (cwV 1 hts gX7_instruction_X7_worksOnOne rfl rfl rfl (by decide +kernel) ⟨Nat.le_of_ble_eq_true rfl, Nat.le_of_ble_eq_true rfl⟩) rfl rfl hl.1 (Nat.le_of_ble_eq_true rfl) dX7_instruction_88 (fun H locs w => ?_)
          exact k_Md_instruction_91 C w (lv_sub hl [2, 3] rfl)
      · rw [if_neg h67]
        refine lv_aload_n hx hb dX7_instruction_70 rfl (lv_at hl 2 rfl) ?_
        refine lv_iload_n hx hb dX7_instruction_71 rfl (lv_at hl 1 rfl) ?_
        refine kcI (k := 12) (ci := 7) (As := [.int y0]) (rest := []) C w rfl rfl (c_Md_stacked l A D cA tb ad mu nu y0) (cwV 1 hts gX7_instruction_X7_stacked rfl rfl rfl (by decide +kernel) ⟨Nat.le_of_ble_eq_true rfl, Nat.le_of_ble_eq_true rfl⟩) rfl rfl hl.1 (Nat.le_of_ble_eq_true rfl) dX7_instruction_72 (fun H locs w => ?_)
        exact k_Md_instruction_75 C w (lv_sub hl [2, 3] rfl)
    · rw [if_neg h30]
      refine lv_iload_n hx hb dX7_instruction_33 rfl (lv_at hl 1 rfl) ?_
      refine lv_bipush (v := 33) hx hb dX7_instruction_34 (by decide) ?_
      refine lv_icmp_eq (tgt := 43) hx hb dX7_instruction_36 (by decide) (fun h36 => ?_) (fun h36 => ?_)
      · rw [if_pos h36]
        refine lv_iconst (v := 0) hx hb dX7_instruction_43 (by decide) ?_
        exact k_Md_instruction_44 C w (lv_sub hl [2, 3, 1] rfl)
      · rw [if_neg h36]
        refine lv_iconst (v := 1) hx hb dX7_instruction_39 (by decide) ?_
        refine lv_goto (tgt := 44) hx hb dX7_instruction_40 (by decide) ?_
        exact k_Md_instruction_44 C w (lv_sub hl [2, 3, 1] rfl)
  · rw [if_neg h15]
    refine lv_aload_n hx hb dX7_instruction_18 rfl (lv_at hl 2 rfl) ?_
    refine lv_iload_n hx hb dX7_instruction_19 rfl (lv_at hl 1 rfl) ?_
    refine kcI (k := 12) (ci := 7) (As := [.int y0]) (rest := []) C w rfl rfl (c_Md_first l A D cA tb ad mu nu y0) (cwV 1 hts gX7_instruction_X7_first rfl rfl rfl (by decide +kernel) ⟨Nat.le_of_ble_eq_true rfl, Nat.le_of_ble_eq_true rfl⟩) rfl rfl hl.1 (Nat.le_of_ble_eq_true rfl) dX7_instruction_20 (fun H locs w => ?_)
    exact k_Md_instruction_23 C w (lv_sub hl [2, 3] rfl)
def F_Md_instruction (mu : Mu) : Mu := F_Md_instruction_9 (mu 12 6) ((F_Md_next mu).1) ((F_Md_next mu).2)
set_option maxHeartbeats 4000000 in
set_option maxRecDepth 100000 in
theorem k_Md_instruction (C : Cx cX7_instruction 4 none wsX7_instruction RX7 A D cA tb p s m args meth c) {mu nu : Mu} {H : Heap} {locs : List Loc} {ls : Array Slot} (w : Wd A D cA ad s nu mu H locs) (hl : lv_has ls 4 [(0, .ref (ad 12))]) : W p l e { frames := 9, cells := 0, slots := 0, locals := 199 } s m args below meth c H locs 0 0 (QV A D cA ad below args s nu (F_Md_instruction mu)) (F0 m 0 ls []) := by
  have hx := C.1
  have hb := C.2.1
  have hts := C.2.2.2.2.2.1
  have hown := C.2.2.2.2.1
  unfold F_Md_instruction
  refine lv_aload_n hx hb dX7_instruction_0 rfl (lv_at hl 0 rfl) ?_
  refine gt_12_6 C (fun _ h => List.mem_cons_of_mem _ (List.mem_append_right _ h)) (hts _ (List.mem_of_getElem? (i := 1) rfl)) w (v := (mu 12 6)) rfl dX7_instruction_1 ?_
  refine lv_istore_n (lv' := [(1, .int ((mu 12 6))), (0, .ref (ad 12))]) hx hb dX7_instruction_4 rfl hl (by decide) rfl (fun ls hl => ?_)
  refine lv_aload_n hx hb dX7_instruction_5 rfl (lv_at hl 1 rfl) ?_
  refine kcI (k := 12) (ci := 7) (As := []) (rest := []) C w rfl rfl (c_Md_next l A D cA tb ad mu nu) (cwV 0 hts gX7_instruction_X7_next rfl rfl rfl (by decide +kernel) ⟨Nat.le_of_ble_eq_true rfl, Nat.le_of_ble_eq_true rfl⟩) rfl rfl hl.1 (Nat.le_of_ble_eq_true rfl) dX7_instruction_6 (fun H locs w => ?_)
  exact k_Md_instruction_9 C w (lv_sub hl [1, 0] rfl)
set_option maxHeartbeats 4000000 in
set_option maxRecDepth 100000 in
theorem c_Md_instruction (l : Launch) (A : Nat → Prop) (D : va_G) (cA : Nat → ClassId) (tb : Nat) (ad : Nat → Nat) (mu nu : Mu) : Met l yX7_instruction wsX7_instruction ({ frames := 9, cells := 0, slots := 0, locals := 199 }) (va_Pc [.ref (ad 12)] (Pw A D cA tb ad nu mu)) (va_Qv (fun (u : Mu × Mu) => u = (nu, F_Md_instruction mu)) (Bw A D cA ad) A) 0 0 A := by
  refine Met.ofW (cc := cX7_instruction) (maxL := 4) (ret := none) (by decide) rfl ?_
  intro p e s m args below meth c s₁ B hml hv
  obtain ⟨rfl, w0⟩ := hv
  have C : Cx cX7_instruction 4 none wsX7_instruction RX7 A D cA tb p s m _ meth c := ⟨B.exec, B.bytes, B.returns, hml, findClass_of_methodNamed B.named, atoms_spec (ws := wsX7_instruction) B.pre, B.notSynchronized, w0.2.1, w0.2.2.2.1, w0.2.2.2.2⟩
  have hl := lv_entry ([.ref (ad 12)]) (n := 4) (Nat.le_of_ble_eq_true rfl)
  rw [lg_entry_eq]
  exact k_Md_instruction C w0.wd hl
def F_Md_step_105 (mu : Mu) : Mu := (F_Md_endPulses mu)
set_option maxHeartbeats 4000000 in
set_option maxRecDepth 100000 in
theorem k_Md_step_105 (C : Cx cX7_step 2 none wsX7_step RX7 A D cA tb p s m args meth c) {mu nu : Mu} {H : Heap} {locs : List Loc} {ls : Array Slot} (w : Wd A D cA ad s nu mu H locs) (hl : lv_has ls 2 [(0, .ref (ad 12))]) : W p l e { frames := 10, cells := 0, slots := 0, locals := 222 } s m args below meth c H locs 0 0 (QV A D cA ad below args s nu (F_Md_step_105 mu)) (F0 m 105 ls []) := by
  have hx := C.1
  have hb := C.2.1
  have hts := C.2.2.2.2.2.1
  have hown := C.2.2.2.2.1
  unfold F_Md_step_105
  refine lv_aload_n hx hb dX7_step_105 rfl (lv_at hl 0 rfl) ?_
  refine kcV (k := 12) (ci := 7) (As := []) (rest := []) C w rfl rfl (c_Md_endPulses l A D cA tb ad mu nu) (cwV 0 hts gX7_step_X7_endPulses rfl rfl rfl (by decide +kernel) ⟨Nat.le_of_ble_eq_true rfl, Nat.le_of_ble_eq_true rfl⟩) rfl rfl hl.1 (Nat.le_of_ble_eq_true rfl) dX7_step_106 (fun H locs w => ?_)
  exact retV C w dX7_step_109
def F_Md_step_94 (mu : Mu) : Mu := (if (mu 12 8) = (0 : Int32) then F_Md_step_105 (F_Md_instruction mu) else F_Md_step_105 mu)
set_option maxHeartbeats 4000000 in
set_option maxRecDepth 100000 in
theorem k_Md_step_94 (C : Cx cX7_step 2 none wsX7_step RX7 A D cA tb p s m args meth c) {mu nu : Mu} {H : Heap} {locs : List Loc} {ls : Array Slot} (w : Wd A D cA ad s nu mu H locs) (hl : lv_has ls 2 [(0, .ref (ad 12))]) : W p l e { frames := 10, cells := 0, slots := 0, locals := 222 } s m args below meth c H locs 0 0 (QV A D cA ad below args s nu (F_Md_step_94 mu)) (F0 m 94 ls []) := by
  have hx := C.1
  have hb := C.2.1
  have hts := C.2.2.2.2.2.1
  have hown := C.2.2.2.2.1
  unfold F_Md_step_94
  refine lv_aload_n hx hb dX7_step_94 rfl (lv_at hl 0 rfl) ?_
  refine gt_12_8 C (fun _ h => List.mem_cons_of_mem _ (List.mem_append_right _ h)) (hts _ (List.mem_of_getElem? (i := 2) rfl)) w (v := (mu 12 8)) rfl dX7_step_95 ?_
  refine lv_if_ne (tgt := 105) hx hb dX7_step_98 (by decide) (fun h98 => ?_) (fun h98 => ?_)
  · rw [if_neg h98]
    exact k_Md_step_105 C w (lv_sub hl [0] rfl)
  · rw [if_pos h98]
    refine lv_aload_n hx hb dX7_step_101 rfl (lv_at hl 0 rfl) ?_
    refine kcV (k := 12) (ci := 7) (As := []) (rest := []) C w rfl rfl (c_Md_instruction l A D cA tb ad mu nu) (cwV 0 hts gX7_step_X7_instruction rfl rfl rfl (by decide +kernel) ⟨Nat.le_of_ble_eq_true rfl, Nat.le_of_ble_eq_true rfl⟩) rfl rfl hl.1 (Nat.le_of_ble_eq_true rfl) dX7_step_102 (fun H locs w => ?_)
    exact k_Md_step_105 C w (lv_sub hl [0] rfl)
def F_Md_step_88 (y1 : Int32) (mu : Mu) : Mu := F_Md_step_105 (ps mu 12 6 y1)
set_option maxHeartbeats 4000000 in
set_option maxRecDepth 100000 in
theorem k_Md_step_88 (C : Cx cX7_step 2 none wsX7_step RX7 A D cA tb p s m args meth c) {mu nu : Mu} {y1 : Int32} {H : Heap} {locs : List Loc} {ls : Array Slot} (w : Wd A D cA ad s nu mu H locs) (hl : lv_has ls 2 [(0, .ref (ad 12))]) : W p l e { frames := 10, cells := 0, slots := 0, locals := 222 } s m args below meth c H locs 0 0 (QV A D cA ad below args s nu (F_Md_step_88 y1 mu)) (F0 m 88 ls [.int y1, .ref (ad 12)]) := by
  have hx := C.1
  have hb := C.2.1
  have hts := C.2.2.2.2.2.1
  have hown := C.2.2.2.2.1
  unfold F_Md_step_88
  refine pt_12_6 C (fun _ h => List.mem_cons_of_mem _ (List.mem_append_right _ h)) (hts _ (List.mem_of_getElem? (i := 4) rfl)) w dX7_step_88 (fun H locs w => ?_)
  refine lv_goto (tgt := 105) hx hb dX7_step_91 (by decide) ?_
  exact k_Md_step_105 C w (lv_sub hl [0] rfl)
def F_Md_step_80 (mu : Mu) : Mu := F_Md_step_88 ((F_Md_readWord 65528 mu).1) ((F_Md_readWord 65528 mu).2)
set_option maxHeartbeats 4000000 in
set_option maxRecDepth 100000 in
theorem k_Md_step_80 (C : Cx cX7_step 2 none wsX7_step RX7 A D cA tb p s m args meth c) {mu nu : Mu} {H : Heap} {locs : List Loc} {ls : Array Slot} (w : Wd A D cA ad s nu mu H locs) (hl : lv_has ls 2 [(0, .ref (ad 12))]) : W p l e { frames := 10, cells := 0, slots := 0, locals := 222 } s m args below meth c H locs 0 0 (QV A D cA ad below args s nu (F_Md_step_80 mu)) (F0 m 80 ls []) := by
  have hx := C.1
  have hb := C.2.1
  have hts := C.2.2.2.2.2.1
  have hown := C.2.2.2.2.1
  unfold F_Md_step_80
  refine lv_aload_n hx hb dX7_step_80 rfl (lv_at hl 0 rfl) ?_
  refine lv_aload_n hx hb dX7_step_81 rfl (lv_at hl 0 rfl) ?_
  refine lv_ldcw (v := 65528) hx hb hown (hts _ (List.mem_of_getElem? (i := 3) rfl)) dX7_step_82 ?_
  refine kcI (k := 12) (ci := 7) (As := [.int 65528]) (rest := [.ref (ad 12)]) C w rfl rfl (c_Md_readWord l A D cA tb ad mu nu 65528) (cwV 1 hts gX7_step_X7_readWord rfl rfl rfl (by decide +kernel) ⟨Nat.le_of_ble_eq_true rfl, Nat.le_of_ble_eq_true rfl⟩) rfl rfl hl.1 (Nat.le_of_ble_eq_true rfl) dX7_step_85 (fun H locs w => ?_)
  exact k_Md_step_88 C w (lv_sub hl [0] rfl)
def F_Md_step_68 (mu : Mu) : Mu := F_Md_step_80 (F_Md_tell 16 1 (ps mu 12 8 0))
set_option maxHeartbeats 4000000 in
set_option maxRecDepth 100000 in
theorem k_Md_step_68 (C : Cx cX7_step 2 none wsX7_step RX7 A D cA tb p s m args meth c) {mu nu : Mu} {H : Heap} {locs : List Loc} {ls : Array Slot} (w : Wd A D cA ad s nu mu H locs) (hl : lv_has ls 2 [(0, .ref (ad 12))]) : W p l e { frames := 10, cells := 0, slots := 0, locals := 222 } s m args below meth c H locs 0 0 (QV A D cA ad below args s nu (F_Md_step_68 mu)) (F0 m 68 ls []) := by
  have hx := C.1
  have hb := C.2.1
  have hts := C.2.2.2.2.2.1
  have hown := C.2.2.2.2.1
  unfold F_Md_step_68
  refine lv_aload_n hx hb dX7_step_68 rfl (lv_at hl 0 rfl) ?_
  refine lv_iconst (v := 0) hx hb dX7_step_69 (by decide) ?_
  refine pt_12_8 C (fun _ h => List.mem_cons_of_mem _ (List.mem_append_right _ h)) (hts _ (List.mem_of_getElem? (i := 2) rfl)) w (Or.inl rfl) dX7_step_70 (fun H locs w => ?_)
  refine lv_aload_n hx hb dX7_step_73 rfl (lv_at hl 0 rfl) ?_
  refine lv_bipush (v := 16) hx hb dX7_step_74 (by decide) ?_
  refine lv_iconst (v := 1) hx hb dX7_step_76 (by decide) ?_
  refine kcV (k := 12) (ci := 7) (As := [.int 16, .int 1]) (rest := []) C w rfl rfl (c_Md_tell l A D cA tb ad (ps mu 12 8 0) nu 16 1) (cwV 2 hts gX7_step_X7_tell rfl rfl rfl (by decide +kernel) ⟨Nat.le_of_ble_eq_true rfl, Nat.le_of_ble_eq_true rfl⟩) rfl rfl hl.1 (Nat.le_of_ble_eq_true rfl) dX7_step_77 (fun H locs w => ?_)
  exact k_Md_step_80 C w (lv_sub hl [0] rfl)
def F_Md_step_43 (y0 : Int32) (mu : Mu) : Mu := (if y0 = (0 : Int32) then F_Md_step_94 mu else (if (F_Md_is 16 mu) = (0 : Int32) then (if (mu 12 8) = (0 : Int32) then F_Md_step_68 (F_Md_pushAll mu) else F_Md_step_68 mu) else F_Md_step_94 mu))
set_option maxHeartbeats 4000000 in
set_option maxRecDepth 100000 in
theorem k_Md_step_43 (C : Cx cX7_step 2 none wsX7_step RX7 A D cA tb p s m args meth c) {mu nu : Mu} {y0 : Int32} {H : Heap} {locs : List Loc} {ls : Array Slot} (w : Wd A D cA ad s nu mu H locs) (hl : lv_has ls 2 [(0, .ref (ad 12))]) : W p l e { frames := 10, cells := 0, slots := 0, locals := 222 } s m args below meth c H locs 0 0 (QV A D cA ad below args s nu (F_Md_step_43 y0 mu)) (F0 m 43 ls [.int y0]) := by
  have hx := C.1
  have hb := C.2.1
  have hts := C.2.2.2.2.2.1
  have hown := C.2.2.2.2.1
  unfold F_Md_step_43
  refine lv_istore_n (lv' := [(1, .int y0), (0, .ref (ad 12))]) hx hb dX7_step_43 rfl hl (by decide) rfl (fun ls hl => ?_)
  refine lv_iload_n hx hb dX7_step_44 rfl (lv_at hl 0 rfl) ?_
  refine lv_if_eq (tgt := 94) hx hb dX7_step_45 (by decide) (fun h45 => ?_) (fun h45 => ?_)
  · rw [if_pos h45]
    exact k_Md_step_94 C w (lv_sub hl [1] rfl)
  · rw [if_neg h45]
    refine lv_aload_n hx hb dX7_step_48 rfl (lv_at hl 1 rfl) ?_
    refine lv_bipush (v := 16) hx hb dX7_step_49 (by decide) ?_
    refine kcI (k := 12) (ci := 7) (As := [.int 16]) (rest := []) C w rfl rfl (c_Md_is l A D cA tb ad mu nu 16) (cwV 1 hts gX7_step_X7_is rfl rfl rfl (by decide +kernel) ⟨Nat.le_of_ble_eq_true rfl, Nat.le_of_ble_eq_true rfl⟩) rfl rfl hl.1 (Nat.le_of_ble_eq_true rfl) dX7_step_51 (fun H locs w => ?_)
    refine lv_if_ne (tgt := 94) hx hb dX7_step_54 (by decide) (fun h54 => ?_) (fun h54 => ?_)
    · rw [if_neg h54]
      exact k_Md_step_94 C w (lv_sub hl [1] rfl)
    · rw [if_pos h54]
      refine lv_aload_n hx hb dX7_step_57 rfl (lv_at hl 1 rfl) ?_
      refine gt_12_8 C (fun _ h => List.mem_cons_of_mem _ (List.mem_append_right _ h)) (hts _ (List.mem_of_getElem? (i := 2) rfl)) w (v := (mu 12 8)) rfl dX7_step_58 ?_
      refine lv_if_ne (tgt := 68) hx hb dX7_step_61 (by decide) (fun h61 => ?_) (fun h61 => ?_)
      · rw [if_neg h61]
        exact k_Md_step_68 C w (lv_sub hl [1] rfl)
      · rw [if_pos h61]
        refine lv_aload_n hx hb dX7_step_64 rfl (lv_at hl 1 rfl) ?_
        refine kcV (k := 12) (ci := 7) (As := []) (rest := []) C w rfl rfl (c_Md_pushAll l A D cA tb ad mu nu) (cwV 0 hts gX7_step_X7_pushAll rfl rfl rfl (by decide +kernel) ⟨Nat.le_of_ble_eq_true rfl, Nat.le_of_ble_eq_true rfl⟩) rfl rfl hl.1 (Nat.le_of_ble_eq_true rfl) dX7_step_65 (fun H locs w => ?_)
        exact k_Md_step_68 C w (lv_sub hl [1] rfl)
def F_Md_step_38 (mu : Mu) : Mu := F_Md_step_43 1 mu
set_option maxHeartbeats 4000000 in
set_option maxRecDepth 100000 in
theorem k_Md_step_38 (C : Cx cX7_step 2 none wsX7_step RX7 A D cA tb p s m args meth c) {mu nu : Mu} {H : Heap} {locs : List Loc} {ls : Array Slot} (w : Wd A D cA ad s nu mu H locs) (hl : lv_has ls 2 [(0, .ref (ad 12))]) : W p l e { frames := 10, cells := 0, slots := 0, locals := 222 } s m args below meth c H locs 0 0 (QV A D cA ad below args s nu (F_Md_step_38 mu)) (F0 m 38 ls []) := by
  have hx := C.1
  have hb := C.2.1
  have hts := C.2.2.2.2.2.1
  have hown := C.2.2.2.2.1
  unfold F_Md_step_38
  refine lv_iconst (v := 1) hx hb dX7_step_38 (by decide) ?_
  refine lv_goto (tgt := 43) hx hb dX7_step_39 (by decide) ?_
  exact k_Md_step_43 C w (lv_sub hl [0] rfl)
def F_Md_step_15 (mu : Mu) : Mu := (if (F_Md_serialAsks mu) = (0 : Int32) then (if (F_Md_sideAsks 0 mu) = (0 : Int32) then (if (F_Md_sideAsks 1 mu) = (0 : Int32) then F_Md_step_43 0 mu else F_Md_step_38 mu) else F_Md_step_38 mu) else F_Md_step_38 mu)
set_option maxHeartbeats 4000000 in
set_option maxRecDepth 100000 in
theorem k_Md_step_15 (C : Cx cX7_step 2 none wsX7_step RX7 A D cA tb p s m args meth c) {mu nu : Mu} {H : Heap} {locs : List Loc} {ls : Array Slot} (w : Wd A D cA ad s nu mu H locs) (hl : lv_has ls 2 [(0, .ref (ad 12))]) : W p l e { frames := 10, cells := 0, slots := 0, locals := 222 } s m args below meth c H locs 0 0 (QV A D cA ad below args s nu (F_Md_step_15 mu)) (F0 m 15 ls []) := by
  have hx := C.1
  have hb := C.2.1
  have hts := C.2.2.2.2.2.1
  have hown := C.2.2.2.2.1
  unfold F_Md_step_15
  refine lv_aload_n hx hb dX7_step_15 rfl (lv_at hl 0 rfl) ?_
  refine kcI (k := 12) (ci := 7) (As := []) (rest := []) C w rfl rfl (c_Md_serialAsks l A D cA tb ad mu nu) (cwV 0 hts gX7_step_X7_serialAsks rfl rfl rfl (by decide +kernel) ⟨Nat.le_of_ble_eq_true rfl, Nat.le_of_ble_eq_true rfl⟩) rfl rfl hl.1 (Nat.le_of_ble_eq_true rfl) dX7_step_16 (fun H locs w => ?_)
  refine lv_if_ne (tgt := 38) hx hb dX7_step_19 (by decide) (fun h19 => ?_) (fun h19 => ?_)
  · rw [if_neg h19]
    exact k_Md_step_38 C w (lv_sub hl [0] rfl)
  · rw [if_pos h19]
    refine lv_aload_n hx hb dX7_step_22 rfl (lv_at hl 0 rfl) ?_
    refine lv_iconst (v := 0) hx hb dX7_step_23 (by decide) ?_
    refine kcI (k := 12) (ci := 7) (As := [.int 0]) (rest := []) C w rfl rfl (c_Md_sideAsks l A D cA tb ad mu nu 0 (by first | exact Or.inl rfl | exact Or.inr rfl)) (cwV 1 hts gX7_step_X7_sideAsks rfl rfl rfl (by decide +kernel) ⟨Nat.le_of_ble_eq_true rfl, Nat.le_of_ble_eq_true rfl⟩) rfl rfl hl.1 (Nat.le_of_ble_eq_true rfl) dX7_step_24 (fun H locs w => ?_)
    refine lv_if_ne (tgt := 38) hx hb dX7_step_27 (by decide) (fun h27 => ?_) (fun h27 => ?_)
    · rw [if_neg h27]
      exact k_Md_step_38 C w (lv_sub hl [0] rfl)
    · rw [if_pos h27]
      refine lv_aload_n hx hb dX7_step_30 rfl (lv_at hl 0 rfl) ?_
      refine lv_iconst (v := 1) hx hb dX7_step_31 (by decide) ?_
      refine kcI (k := 12) (ci := 7) (As := [.int 1]) (rest := []) C w rfl rfl (c_Md_sideAsks l A D cA tb ad mu nu 1 (by first | exact Or.inl rfl | exact Or.inr rfl)) (cwV 1 hts gX7_step_X7_sideAsks rfl rfl rfl (by decide +kernel) ⟨Nat.le_of_ble_eq_true rfl, Nat.le_of_ble_eq_true rfl⟩) rfl rfl hl.1 (Nat.le_of_ble_eq_true rfl) dX7_step_32 (fun H locs w => ?_)
      refine lv_if_eq (tgt := 42) hx hb dX7_step_35 (by decide) (fun h35 => ?_) (fun h35 => ?_)
      · rw [if_pos h35]
        refine lv_iconst (v := 0) hx hb dX7_step_42 (by decide) ?_
        exact k_Md_step_43 C w (lv_sub hl [0] rfl)
      · rw [if_neg h35]
        exact k_Md_step_38 C w (lv_sub hl [0] rfl)
def F_Md_step_11 (mu : Mu) : Mu := F_Md_step_15 (F_Md_goesOut mu)
set_option maxHeartbeats 4000000 in
set_option maxRecDepth 100000 in
theorem k_Md_step_11 (C : Cx cX7_step 2 none wsX7_step RX7 A D cA tb p s m args meth c) {mu nu : Mu} {H : Heap} {locs : List Loc} {ls : Array Slot} (w : Wd A D cA ad s nu mu H locs) (hl : lv_has ls 2 [(0, .ref (ad 12))]) (hJ : Jm mu) : W p l e { frames := 10, cells := 0, slots := 0, locals := 222 } s m args below meth c H locs 0 0 (QV A D cA ad below args s nu (F_Md_step_11 mu)) (F0 m 11 ls []) := by
  have hx := C.1
  have hb := C.2.1
  have hts := C.2.2.2.2.2.1
  have hown := C.2.2.2.2.1
  unfold F_Md_step_11
  refine lv_aload_n hx hb dX7_step_11 rfl (lv_at hl 0 rfl) ?_
  refine kcV (k := 12) (ci := 7) (As := []) (rest := []) C w rfl rfl (c_Md_goesOut l A D cA tb ad mu nu hJ) (cwV 0 hts gX7_step_X7_goesOut rfl rfl rfl (by decide +kernel) ⟨Nat.le_of_ble_eq_true rfl, Nat.le_of_ble_eq_true rfl⟩) rfl rfl hl.1 (Nat.le_of_ble_eq_true rfl) dX7_step_12 (fun H locs w => ?_)
  exact k_Md_step_15 C w (lv_sub hl [0] rfl)
def F_Md_step (mu : Mu) : Mu := (if (mu 12 25) = (0 : Int32) then F_Md_step_11 (F_Md_comesIn mu) else F_Md_step_15 mu)
set_option maxHeartbeats 4000000 in
set_option maxRecDepth 100000 in
theorem k_Md_step (C : Cx cX7_step 2 none wsX7_step RX7 A D cA tb p s m args meth c) {mu nu : Mu} {H : Heap} {locs : List Loc} {ls : Array Slot} (w : Wd A D cA ad s nu mu H locs) (hl : lv_has ls 2 [(0, .ref (ad 12))]) (hJ : Jm mu) : W p l e { frames := 10, cells := 0, slots := 0, locals := 222 } s m args below meth c H locs 0 0 (QV A D cA ad below args s nu (F_Md_step mu)) (F0 m 0 ls []) := by
  have hx := C.1
  have hb := C.2.1
  have hts := C.2.2.2.2.2.1
  have hown := C.2.2.2.2.1
  unfold F_Md_step
  refine lv_aload_n hx hb dX7_step_0 rfl (lv_at hl 0 rfl) ?_
  refine gt_12_25 C (fun _ h => List.mem_cons_of_mem _ (List.mem_append_right _ h)) (hts _ (List.mem_of_getElem? (i := 1) rfl)) w (v := (mu 12 25)) rfl dX7_step_1 ?_
  refine lv_if_ne (tgt := 15) hx hb dX7_step_4 (by decide) (fun h4 => ?_) (fun h4 => ?_)
  · rw [if_neg h4]
    exact k_Md_step_15 C w (lv_sub hl [0] rfl)
  · rw [if_pos h4]
    refine lv_aload_n hx hb dX7_step_7 rfl (lv_at hl 0 rfl) ?_
    refine kcV (k := 12) (ci := 7) (As := []) (rest := []) C w rfl rfl (c_Md_comesIn l A D cA tb ad mu nu hJ) (cwV 0 hts gX7_step_X7_comesIn rfl rfl rfl (by decide +kernel) ⟨Nat.le_of_ble_eq_true rfl, Nat.le_of_ble_eq_true rfl⟩) rfl rfl hl.1 (Nat.le_of_ble_eq_true rfl) dX7_step_8 (fun H locs w => ?_)
    exact k_Md_step_11 C w (lv_sub hl [0] rfl) (ci_J hJ)
set_option maxHeartbeats 4000000 in
set_option maxRecDepth 100000 in
theorem c_Md_step (l : Launch) (A : Nat → Prop) (D : va_G) (cA : Nat → ClassId) (tb : Nat) (ad : Nat → Nat) (mu nu : Mu) (hJ : Jm mu) : Met l yX7_step wsX7_step ({ frames := 10, cells := 0, slots := 0, locals := 222 }) (va_Pc [.ref (ad 12)] (Pw A D cA tb ad nu mu)) (va_Qv (fun (u : Mu × Mu) => u = (nu, F_Md_step mu)) (Bw A D cA ad) A) 0 0 A := by
  refine Met.ofW (cc := cX7_step) (maxL := 2) (ret := none) (by decide) rfl ?_
  intro p e s m args below meth c s₁ B hml hv
  obtain ⟨rfl, w0⟩ := hv
  have C : Cx cX7_step 2 none wsX7_step RX7 A D cA tb p s m _ meth c := ⟨B.exec, B.bytes, B.returns, hml, findClass_of_methodNamed B.named, atoms_spec (ws := wsX7_step) B.pre, B.notSynchronized, w0.2.1, w0.2.2.2.1, w0.2.2.2.2⟩
  have hl := lv_entry ([.ref (ad 12)]) (n := 2) (Nat.le_of_ble_eq_true rfl)
  rw [lg_entry_eq]
  exact k_Md_step C w0.wd hl hJ
def itrM : Nat → Mu → Mu
  | 0, mu => mu
  | k + 1, mu => itrM k (F_Md_step mu)
def F_Md_run_15 : Nat → Int32 → Int32 → Mu → Int32 × Mu
  | 0, _, _, mu => (0, mu)
  | n + 1, x1, x2, mu => (if x1 ≤ x2 then (x2, mu) else (if (mu 12 9) = (0 : Int32) then F_Md_run_15 n x1 (x2 + 1) (F_Md_step mu) else (x2, mu)))
set_option maxHeartbeats 4000000 in
set_option maxRecDepth 100000 in
theorem k_Md_run_15 {nu : Mu} (C : Cx cX7_run 3 (some .int) wsX7_run RX7 A D cA tb p s m args meth c) : ∀ (n : Nat) {mu : Mu} {x1 : Int32} {x2 : Int32} {H : Heap} {locs : List Loc} {ls : Array Slot} (_ : ((x1).toInt - (x2).toInt < (n : Int) ∧ 0 < n)) (w : Wd A D cA ad s nu mu H locs) (hl : lv_has ls 3 [(0, .ref (ad 12)), (1, .int x1), (2, .int x2)]) (hJ : ∀ k, Jm (itrM k mu)), W p l e { frames := 11, cells := 0, slots := 0, locals := 243 } s m args below meth c H locs 0 0 (QI A D cA ad below args s (F_Md_run_15 n x1 x2 mu).1 nu (F_Md_run_15 n x1 x2 mu).2) (F0 m 15 ls []) := by
  have hx := C.1
  have hb := C.2.1
  have hts := C.2.2.2.2.2.1
  have hown := C.2.2.2.2.1
  intro n
  induction n with
  | zero =>
    intro mu x1 x2 H locs ls hm
    exact absurd hm.2 (Nat.lt_irrefl 0)
  | succ n ih =>
    intro mu x1 x2 H locs ls hm w hl hJ
    rw [F_Md_run_15]
    refine lv_iload_n hx hb dX7_run_15 rfl (lv_at hl 2 rfl) ?_
    refine lv_iload_n hx hb dX7_run_16 rfl (lv_at hl 1 rfl) ?_
    refine lv_icmp_ge (tgt := 37) hx hb dX7_run_17 (by decide) (fun h17 => ?_) (fun h17 => ?_)
    · rw [if_pos h17]
      refine lv_iload_n hx hb dX7_run_37 rfl (lv_at hl 2 rfl) ?_
      exact retI C w dX7_run_38
    · rw [if_neg h17]
      refine lv_aload_n hx hb dX7_run_20 rfl (lv_at hl 0 rfl) ?_
      refine gt_12_9 C (fun _ h => List.mem_cons_of_mem _ (List.mem_append_right _ h)) (hts _ (List.mem_of_getElem? (i := 1) rfl)) w (v := (mu 12 9)) rfl dX7_run_21 ?_
      refine lv_if_ne (tgt := 37) hx hb dX7_run_24 (by decide) (fun h24 => ?_) (fun h24 => ?_)
      · rw [if_neg h24]
        refine lv_iload_n hx hb dX7_run_37 rfl (lv_at hl 2 rfl) ?_
        exact retI C w dX7_run_38
      · rw [if_pos h24]
        refine lv_aload_n hx hb dX7_run_27 rfl (lv_at hl 0 rfl) ?_
        refine kcV (k := 12) (ci := 7) (As := []) (rest := []) C w rfl rfl (c_Md_step l A D cA tb ad mu nu (hJ 0)) (cwV 0 hts gX7_run_X7_step rfl rfl rfl (by decide +kernel) ⟨Nat.le_of_ble_eq_true rfl, Nat.le_of_ble_eq_true rfl⟩) rfl rfl hl.1 (Nat.le_of_ble_eq_true rfl) dX7_run_28 (fun H locs w => ?_)
        refine lv_iinc (v := (x2 + 1)) (lv' := [(2, .int ((x2 + 1))), (0, .ref (ad 12)), (1, .int x1)]) hx hb dX7_run_31 hl (k := 2) rfl (by first | rfl | decide) (by decide) rfl (fun ls hl => ?_)
        refine lv_goto (tgt := 15) hx hb dX7_run_34 (by decide) ?_
        exact ih (lp_dec h17 hm) w (lv_sub hl [1, 2, 0] rfl) (fun k => hJ (k + 1))
def F_Md_run (x1 : Int32) (mu : Mu) : Int32 × Mu := (if x1 < (0 : Int32) then ((-1 : Int32), mu) else (if x1 ≤ (3000 : Int32) then F_Md_run_15 (x1.toNatClampNeg + 1) x1 0 mu else ((-1 : Int32), mu)))
set_option maxHeartbeats 4000000 in
set_option maxRecDepth 100000 in
theorem k_Md_run (C : Cx cX7_run 3 (some .int) wsX7_run RX7 A D cA tb p s m args meth c) {mu nu : Mu} {x1 : Int32} {H : Heap} {locs : List Loc} {ls : Array Slot} (w : Wd A D cA ad s nu mu H locs) (hl : lv_has ls 3 [(0, .ref (ad 12)), (1, .int x1)]) (hJ : ∀ k, Jm (itrM k mu)) : W p l e { frames := 11, cells := 0, slots := 0, locals := 243 } s m args below meth c H locs 0 0 (QI A D cA ad below args s (F_Md_run x1 mu).1 nu (F_Md_run x1 mu).2) (F0 m 0 ls []) := by
  have hx := C.1
  have hb := C.2.1
  have hts := C.2.2.2.2.2.1
  have hown := C.2.2.2.2.1
  unfold F_Md_run
  refine lv_iload_n hx hb dX7_run_0 rfl (lv_at hl 1 rfl) ?_
  refine lv_if_lt (tgt := 11) hx hb dX7_run_1 (by decide) (fun h1 => ?_) (fun h1 => ?_)
  · rw [if_pos h1]
    refine lv_iconst (v := (-1 : Int32)) hx hb dX7_run_11 (by decide) ?_
    exact retI C w dX7_run_12
  · rw [if_neg h1]
    refine lv_iload_n hx hb dX7_run_4 rfl (lv_at hl 1 rfl) ?_
    refine lv_sipush (v := 3000) hx hb dX7_run_5 (by decide) ?_
    refine lv_icmp_le (tgt := 13) hx hb dX7_run_8 (by decide) (fun h8 => ?_) (fun h8 => ?_)
    · rw [if_pos h8]
      refine lv_iconst (v := 0) hx hb dX7_run_13 (by decide) ?_
      refine lv_istore_n (lv' := [(2, .int 0), (0, .ref (ad 12)), (1, .int x1)]) hx hb dX7_run_14 rfl hl (by decide) rfl (fun ls hl => ?_)
      exact k_Md_run_15 C _ (lp_init _) w (lv_sub hl [1, 2, 0] rfl) hJ
    · rw [if_neg h8]
      refine lv_iconst (v := (-1 : Int32)) hx hb dX7_run_11 (by decide) ?_
      exact retI C w dX7_run_12
set_option maxHeartbeats 4000000 in
set_option maxRecDepth 100000 in
theorem c_Md_run (l : Launch) (A : Nat → Prop) (D : va_G) (cA : Nat → ClassId) (tb : Nat) (ad : Nat → Nat) (mu nu : Mu) (x1 : Int32) (hJ : ∀ k, Jm (itrM k mu)) : Met l yX7_run wsX7_run ({ frames := 11, cells := 0, slots := 0, locals := 243 }) (va_Pc [.ref (ad 12), .int x1] (Pw A D cA tb ad nu mu)) (va_Qi (fun (r : Int32) (u : Mu × Mu) => r = (F_Md_run x1 mu).1 ∧ u = (nu, (F_Md_run x1 mu).2)) (Bw A D cA ad) A) 0 0 A := by
  refine Met.ofW (cc := cX7_run) (maxL := 3) (ret := (some .int)) (by decide) rfl ?_
  intro p e s m args below meth c s₁ B hml hv
  obtain ⟨rfl, w0⟩ := hv
  have C : Cx cX7_run 3 (some .int) wsX7_run RX7 A D cA tb p s m _ meth c := ⟨B.exec, B.bytes, B.returns, hml, findClass_of_methodNamed B.named, atoms_spec (ws := wsX7_run) B.pre, B.notSynchronized, w0.2.1, w0.2.2.2.1, w0.2.2.2.2⟩
  have hl := lv_entry ([.ref (ad 12), .int x1]) (n := 3) (Nat.le_of_ble_eq_true rfl)
  rw [lg_entry_eq]
  exact k_Md_run C w0.wd hl hJ
def F_Md_register (x1 : Int32) (mu : Mu) : Int32 := (if x1 = 0 then (mu 12 2) else (if x1 = 1 then (mu 12 3) else (if x1 = 2 then (mu 12 4) else (if x1 = 3 then (mu 12 5) else (if x1 = 4 then (mu 12 6) else (if x1 = 5 then (mu 12 7) else (if x1 = 6 then (if (mu 12 8) = (0 : Int32) then 0 else 1) else (if x1 = 7 then (if (mu 12 9) = (0 : Int32) then 0 else 1) else (-1 : Int32)))))))))
set_option maxHeartbeats 4000000 in
set_option maxRecDepth 100000 in
theorem k_Md_register (C : Cx cX7_register 2 (some .int) wsX7_register RX7 A D cA tb p s m args meth c) {mu nu : Mu} {x1 : Int32} {H : Heap} {locs : List Loc} {ls : Array Slot} (w : Wd A D cA ad s nu mu H locs) (hl : lv_has ls 2 [(0, .ref (ad 12)), (1, .int x1)]) : W p l e { frames := 0, cells := 0, slots := 0, locals := 0 } s m args below meth c H locs 0 0 (QI A D cA ad below args s (F_Md_register x1 mu) nu mu) (F0 m 0 ls []) := by
  have hx := C.1
  have hb := C.2.1
  have hts := C.2.2.2.2.2.1
  have hown := C.2.2.2.2.1
  unfold F_Md_register
  refine lv_iload_n hx hb dX7_register_0 rfl (lv_at hl 1 rfl) ?_
  by_cases h1_0 : x1 = (0 : Int32)
  · rw [if_pos h1_0]
    refine lv_tableIn (off := 47) (tgt := 48) hx hb dX7_register_1 (by rw [h1_0]; decide) (by rw [h1_0]; decide) (by rw [h1_0]; decide) (by decide) ?_
    refine lv_aload_n hx hb dX7_register_48 rfl (lv_at hl 0 rfl) ?_
    refine gt_12_2 C (fun _ h => List.mem_cons_of_mem _ (List.mem_append_right _ h)) (hts _ (List.mem_of_getElem? (i := 1) rfl)) w (v := (mu 12 2)) rfl dX7_register_49 ?_
    exact retI C w dX7_register_52
  · rw [if_neg h1_0]
    by_cases h1_1 : x1 = (1 : Int32)
    · rw [if_pos h1_1]
      refine lv_tableIn (off := 52) (tgt := 53) hx hb dX7_register_1 (by rw [h1_1]; decide) (by rw [h1_1]; decide) (by rw [h1_1]; decide) (by decide) ?_
      refine lv_aload_n hx hb dX7_register_53 rfl (lv_at hl 0 rfl) ?_
      refine gt_12_3 C (fun _ h => List.mem_cons_of_mem _ (List.mem_append_right _ h)) (hts _ (List.mem_of_getElem? (i := 2) rfl)) w (v := (mu 12 3)) rfl dX7_register_54 ?_
      exact retI C w dX7_register_57
    · rw [if_neg h1_1]
      by_cases h1_2 : x1 = (2 : Int32)
      · rw [if_pos h1_2]
        refine lv_tableIn (off := 57) (tgt := 58) hx hb dX7_register_1 (by rw [h1_2]; decide) (by rw [h1_2]; decide) (by rw [h1_2]; decide) (by decide) ?_
        refine lv_aload_n hx hb dX7_register_58 rfl (lv_at hl 0 rfl) ?_
        refine gt_12_4 C (fun _ h => List.mem_cons_of_mem _ (List.mem_append_right _ h)) (hts _ (List.mem_of_getElem? (i := 3) rfl)) w (v := (mu 12 4)) rfl dX7_register_59 ?_
        exact retI C w dX7_register_62
      · rw [if_neg h1_2]
        by_cases h1_3 : x1 = (3 : Int32)
        · rw [if_pos h1_3]
          refine lv_tableIn (off := 62) (tgt := 63) hx hb dX7_register_1 (by rw [h1_3]; decide) (by rw [h1_3]; decide) (by rw [h1_3]; decide) (by decide) ?_
          refine lv_aload_n hx hb dX7_register_63 rfl (lv_at hl 0 rfl) ?_
          refine gt_12_5 C (fun _ h => List.mem_cons_of_mem _ (List.mem_append_right _ h)) (hts _ (List.mem_of_getElem? (i := 4) rfl)) w (v := (mu 12 5)) rfl dX7_register_64 ?_
          exact retI C w dX7_register_67
        · rw [if_neg h1_3]
          by_cases h1_4 : x1 = (4 : Int32)
          · rw [if_pos h1_4]
            refine lv_tableIn (off := 67) (tgt := 68) hx hb dX7_register_1 (by rw [h1_4]; decide) (by rw [h1_4]; decide) (by rw [h1_4]; decide) (by decide) ?_
            refine lv_aload_n hx hb dX7_register_68 rfl (lv_at hl 0 rfl) ?_
            refine gt_12_6 C (fun _ h => List.mem_cons_of_mem _ (List.mem_append_right _ h)) (hts _ (List.mem_of_getElem? (i := 5) rfl)) w (v := (mu 12 6)) rfl dX7_register_69 ?_
            exact retI C w dX7_register_72
          · rw [if_neg h1_4]
            by_cases h1_5 : x1 = (5 : Int32)
            · rw [if_pos h1_5]
              refine lv_tableIn (off := 72) (tgt := 73) hx hb dX7_register_1 (by rw [h1_5]; decide) (by rw [h1_5]; decide) (by rw [h1_5]; decide) (by decide) ?_
              refine lv_aload_n hx hb dX7_register_73 rfl (lv_at hl 0 rfl) ?_
              refine gt_12_7 C (fun _ h => List.mem_cons_of_mem _ (List.mem_append_right _ h)) (hts _ (List.mem_of_getElem? (i := 6) rfl)) w (v := (mu 12 7)) rfl dX7_register_74 ?_
              exact retI C w dX7_register_77
            · rw [if_neg h1_5]
              by_cases h1_6 : x1 = (6 : Int32)
              · rw [if_pos h1_6]
                refine lv_tableIn (off := 77) (tgt := 78) hx hb dX7_register_1 (by rw [h1_6]; decide) (by rw [h1_6]; decide) (by rw [h1_6]; decide) (by decide) ?_
                refine lv_aload_n hx hb dX7_register_78 rfl (lv_at hl 0 rfl) ?_
                refine gt_12_8 C (fun _ h => List.mem_cons_of_mem _ (List.mem_append_right _ h)) (hts _ (List.mem_of_getElem? (i := 7) rfl)) w (v := (mu 12 8)) rfl dX7_register_79 ?_
                refine lv_if_eq (tgt := 89) hx hb dX7_register_82 (by decide) (fun h82 => ?_) (fun h82 => ?_)
                · rw [if_pos h82]
                  refine lv_iconst (v := 0) hx hb dX7_register_89 (by decide) ?_
                  exact retI C w dX7_register_90
                · rw [if_neg h82]
                  refine lv_iconst (v := 1) hx hb dX7_register_85 (by decide) ?_
                  refine lv_goto (tgt := 90) hx hb dX7_register_86 (by decide) ?_
                  exact retI C w dX7_register_90
              · rw [if_neg h1_6]
                by_cases h1_7 : x1 = (7 : Int32)
                · rw [if_pos h1_7]
                  refine lv_tableIn (off := 90) (tgt := 91) hx hb dX7_register_1 (by rw [h1_7]; decide) (by rw [h1_7]; decide) (by rw [h1_7]; decide) (by decide) ?_
                  refine lv_aload_n hx hb dX7_register_91 rfl (lv_at hl 0 rfl) ?_
                  refine gt_12_9 C (fun _ h => List.mem_cons_of_mem _ (List.mem_append_right _ h)) (hts _ (List.mem_of_getElem? (i := 8) rfl)) w (v := (mu 12 9)) rfl dX7_register_92 ?_
                  refine lv_if_eq (tgt := 102) hx hb dX7_register_95 (by decide) (fun h95 => ?_) (fun h95 => ?_)
                  · rw [if_pos h95]
                    refine lv_iconst (v := 0) hx hb dX7_register_102 (by decide) ?_
                    exact retI C w dX7_register_103
                  · rw [if_neg h95]
                    refine lv_iconst (v := 1) hx hb dX7_register_98 (by decide) ?_
                    refine lv_goto (tgt := 103) hx hb dX7_register_99 (by decide) ?_
                    exact retI C w dX7_register_103
                · rw [if_neg h1_7]
                  refine lv_tableOut (tgt := 104) hx hb dX7_register_1 (by have := lv_neT h1_0 (a := 0) rfl; have := lv_neT h1_1 (a := 1) rfl; have := lv_neT h1_2 (a := 2) rfl; have := lv_neT h1_3 (a := 3) rfl; have := lv_neT h1_4 (a := 4) rfl; have := lv_neT h1_5 (a := 5) rfl; have := lv_neT h1_6 (a := 6) rfl; have := lv_neT h1_7 (a := 7) rfl; omega) (by decide) ?_
                  refine lv_iconst (v := (-1 : Int32)) hx hb dX7_register_104 (by decide) ?_
                  exact retI C w dX7_register_105
set_option maxHeartbeats 4000000 in
set_option maxRecDepth 100000 in
theorem c_Md_register (l : Launch) (A : Nat → Prop) (D : va_G) (cA : Nat → ClassId) (tb : Nat) (ad : Nat → Nat) (mu nu : Mu) (x1 : Int32) : Met l yX7_register wsX7_register ({ frames := 0, cells := 0, slots := 0, locals := 0 }) (va_Pc [.ref (ad 12), .int x1] (Pw A D cA tb ad nu mu)) (va_Qi (fun (r : Int32) (u : Mu × Mu) => r = F_Md_register x1 mu ∧ u = (nu, mu)) (Bw A D cA ad) A) 0 0 A := by
  refine Met.ofW (cc := cX7_register) (maxL := 2) (ret := (some .int)) (by decide) rfl ?_
  intro p e s m args below meth c s₁ B hml hv
  obtain ⟨rfl, w0⟩ := hv
  have C : Cx cX7_register 2 (some .int) wsX7_register RX7 A D cA tb p s m _ meth c := ⟨B.exec, B.bytes, B.returns, hml, findClass_of_methodNamed B.named, atoms_spec (ws := wsX7_register) B.pre, B.notSynchronized, w0.2.1, w0.2.2.2.1, w0.2.2.2.2⟩
  have hl := lv_entry ([.ref (ad 12), .int x1]) (n := 2) (Nat.le_of_ble_eq_true rfl)
  rw [lg_entry_eq]
  exact k_Md_register C w0.wd hl
def F_Md_receive (x1 : Int32) (mu : Mu) : Int32 × Mu := (if (mu 12 24) = (64 : Int32) then (0, mu) else (1, (ps (ps mu 21 (mu 12 24).toNatClampNeg (x1 &&& 255)) 12 24 ((mu 12 24) + 1))))
set_option maxHeartbeats 4000000 in
set_option maxRecDepth 100000 in
theorem k_Md_receive (C : Cx cX7_receive 2 (some .boolean) wsX7_receive RX7 A D cA tb p s m args meth c) {mu nu : Mu} {x1 : Int32} {H : Heap} {locs : List Loc} {ls : Array Slot} (w : Wd A D cA ad s nu mu H locs) (hl : lv_has ls 2 [(0, .ref (ad 12)), (1, .int x1)]) (hJ : Jm mu) : W p l e { frames := 0, cells := 0, slots := 0, locals := 0 } s m args below meth c H locs 0 0 (QI A D cA ad below args s (F_Md_receive x1 mu).1 nu (F_Md_receive x1 mu).2) (F0 m 0 ls []) := by
  have hx := C.1
  have hb := C.2.1
  have hts := C.2.2.2.2.2.1
  have hown := C.2.2.2.2.1
  unfold F_Md_receive
  refine lv_aload_n hx hb dX7_receive_0 rfl (lv_at hl 0 rfl) ?_
  refine gt_12_24 C (fun _ h => List.mem_cons_of_mem _ (List.mem_append_right _ h)) (hts _ (List.mem_of_getElem? (i := 1) rfl)) w (v := (mu 12 24)) rfl dX7_receive_1 ?_
  refine lv_bipush (v := 64) hx hb dX7_receive_4 (by decide) ?_
  refine lv_icmp_ne (tgt := 11) hx hb dX7_receive_6 (by decide) (fun h6 => ?_) (fun h6 => ?_)
  · rw [if_neg h6]
    refine lv_aload_n hx hb dX7_receive_11 rfl (lv_at hl 0 rfl) ?_
    refine gt_12_29 C (fun _ h => List.mem_cons_of_mem _ (List.mem_append_right _ h)) (hts _ (List.mem_of_getElem? (i := 2) rfl)) w dX7_receive_12 ?_
    refine lv_aload_n hx hb dX7_receive_15 rfl (lv_at hl 0 rfl) ?_
    refine gt_12_24 C (fun _ h => List.mem_cons_of_mem _ (List.mem_append_right _ h)) (hts _ (List.mem_of_getElem? (i := 1) rfl)) w (v := (mu 12 24)) rfl dX7_receive_16 ?_
    refine lv_iload_n hx hb dX7_receive_19 rfl (lv_at hl 1 rfl) ?_
    refine lv_sipush (v := 255) hx hb dX7_receive_20 (by decide) ?_
    refine lv_iand hx hb dX7_receive_23 ?_
    refine is_21 C w (vin_ne (c := 64) (by decide) hJ.1.1 hJ.1.2 h6) dX7_receive_24 (fun H locs w => ?_)
    refine lv_aload_n hx hb dX7_receive_25 rfl (lv_at hl 0 rfl) ?_
    refine lv_dup hx hb dX7_receive_26 rfl ?_
    refine gt_12_24 C (fun _ h => List.mem_cons_of_mem _ (List.mem_append_right _ h)) (hts _ (List.mem_of_getElem? (i := 1) rfl)) w (v := (mu 12 24)) rfl dX7_receive_27 ?_
    refine lv_iconst (v := 1) hx hb dX7_receive_30 (by decide) ?_
    refine lv_iadd hx hb dX7_receive_31 ?_
    refine pt_12_24 C (fun _ h => List.mem_cons_of_mem _ (List.mem_append_right _ h)) (hts _ (List.mem_of_getElem? (i := 1) rfl)) w dX7_receive_32 (fun H locs w => ?_)
    refine lv_iconst (v := 1) hx hb dX7_receive_35 (by decide) ?_
    exact retZ C w dX7_receive_36 (Or.inr rfl)
  · rw [if_pos h6]
    refine lv_iconst (v := 0) hx hb dX7_receive_9 (by decide) ?_
    exact retZ C w dX7_receive_10 (Or.inl rfl)
set_option maxHeartbeats 4000000 in
set_option maxRecDepth 100000 in
theorem c_Md_receive (l : Launch) (A : Nat → Prop) (D : va_G) (cA : Nat → ClassId) (tb : Nat) (ad : Nat → Nat) (mu nu : Mu) (x1 : Int32) (hJ : Jm mu) : Met l yX7_receive wsX7_receive ({ frames := 0, cells := 0, slots := 0, locals := 0 }) (va_Pc [.ref (ad 12), .int x1] (Pw A D cA tb ad nu mu)) (va_Qi (fun (r : Int32) (u : Mu × Mu) => r = (F_Md_receive x1 mu).1 ∧ u = (nu, (F_Md_receive x1 mu).2)) (Bw A D cA ad) A) 0 0 A := by
  refine Met.ofW (cc := cX7_receive) (maxL := 2) (ret := (some .boolean)) (by decide) rfl ?_
  intro p e s m args below meth c s₁ B hml hv
  obtain ⟨rfl, w0⟩ := hv
  have C : Cx cX7_receive 2 (some .boolean) wsX7_receive RX7 A D cA tb p s m _ meth c := ⟨B.exec, B.bytes, B.returns, hml, findClass_of_methodNamed B.named, atoms_spec (ws := wsX7_receive) B.pre, B.notSynchronized, w0.2.1, w0.2.2.2.1, w0.2.2.2.2⟩
  have hl := lv_entry ([.ref (ad 12), .int x1]) (n := 2) (Nat.le_of_ble_eq_true rfl)
  rw [lg_entry_eq]
  exact k_Md_receive C w0.wd hl hJ
def F_Md_sent (mu : Mu) : Int32 := (mu 12 23)
set_option maxHeartbeats 4000000 in
set_option maxRecDepth 100000 in
theorem k_Md_sent (C : Cx cX7_sent 1 (some .int) wsX7_sent RX7 A D cA tb p s m args meth c) {mu nu : Mu} {H : Heap} {locs : List Loc} {ls : Array Slot} (w : Wd A D cA ad s nu mu H locs) (hl : lv_has ls 1 [(0, .ref (ad 12))]) : W p l e { frames := 0, cells := 0, slots := 0, locals := 0 } s m args below meth c H locs 0 0 (QI A D cA ad below args s (F_Md_sent mu) nu mu) (F0 m 0 ls []) := by
  have hx := C.1
  have hb := C.2.1
  have hts := C.2.2.2.2.2.1
  have hown := C.2.2.2.2.1
  unfold F_Md_sent
  refine lv_aload_n hx hb dX7_sent_0 rfl (lv_at hl 0 rfl) ?_
  refine gt_12_23 C (fun _ h => List.mem_cons_of_mem _ (List.mem_append_right _ h)) (hts _ (List.mem_of_getElem? (i := 1) rfl)) w (v := (mu 12 23)) rfl dX7_sent_1 ?_
  exact retI C w dX7_sent_4
set_option maxHeartbeats 4000000 in
set_option maxRecDepth 100000 in
theorem c_Md_sent (l : Launch) (A : Nat → Prop) (D : va_G) (cA : Nat → ClassId) (tb : Nat) (ad : Nat → Nat) (mu nu : Mu) : Met l yX7_sent wsX7_sent ({ frames := 0, cells := 0, slots := 0, locals := 0 }) (va_Pc [.ref (ad 12)] (Pw A D cA tb ad nu mu)) (va_Qi (fun (r : Int32) (u : Mu × Mu) => r = F_Md_sent mu ∧ u = (nu, mu)) (Bw A D cA ad) A) 0 0 A := by
  refine Met.ofW (cc := cX7_sent) (maxL := 1) (ret := (some .int)) (by decide) rfl ?_
  intro p e s m args below meth c s₁ B hml hv
  obtain ⟨rfl, w0⟩ := hv
  have C : Cx cX7_sent 1 (some .int) wsX7_sent RX7 A D cA tb p s m _ meth c := ⟨B.exec, B.bytes, B.returns, hml, findClass_of_methodNamed B.named, atoms_spec (ws := wsX7_sent) B.pre, B.notSynchronized, w0.2.1, w0.2.2.2.1, w0.2.2.2.2⟩
  have hl := lv_entry ([.ref (ad 12)]) (n := 1) (Nat.le_of_ble_eq_true rfl)
  rw [lg_entry_eq]
  exact k_Md_sent C w0.wd hl
def F_Md_sentByte (x1 : Int32) (mu : Mu) : Int32 := (if x1 < (0 : Int32) then (-1 : Int32) else (if x1 < (mu 12 23) then (mu 22 x1.toNatClampNeg) else (-1 : Int32)))
set_option maxHeartbeats 4000000 in
set_option maxRecDepth 100000 in
theorem k_Md_sentByte (C : Cx cX7_sentByte 2 (some .int) wsX7_sentByte RX7 A D cA tb p s m args meth c) {mu nu : Mu} {x1 : Int32} {H : Heap} {locs : List Loc} {ls : Array Slot} (w : Wd A D cA ad s nu mu H locs) (hl : lv_has ls 2 [(0, .ref (ad 12)), (1, .int x1)]) (hJ : Jm mu) : W p l e { frames := 0, cells := 0, slots := 0, locals := 0 } s m args below meth c H locs 0 0 (QI A D cA ad below args s (F_Md_sentByte x1 mu) nu mu) (F0 m 0 ls []) := by
  have hx := C.1
  have hb := C.2.1
  have hts := C.2.2.2.2.2.1
  have hown := C.2.2.2.2.1
  unfold F_Md_sentByte
  refine lv_iload_n hx hb dX7_sentByte_0 rfl (lv_at hl 1 rfl) ?_
  refine lv_if_lt (tgt := 12) hx hb dX7_sentByte_1 (by decide) (fun h1 => ?_) (fun h1 => ?_)
  · rw [if_pos h1]
    refine lv_iconst (v := (-1 : Int32)) hx hb dX7_sentByte_12 (by decide) ?_
    refine lv_goto (tgt := 22) hx hb dX7_sentByte_13 (by decide) ?_
    exact retI C w dX7_sentByte_22
  · rw [if_neg h1]
    refine lv_iload_n hx hb dX7_sentByte_4 rfl (lv_at hl 1 rfl) ?_
    refine lv_aload_n hx hb dX7_sentByte_5 rfl (lv_at hl 0 rfl) ?_
    refine gt_12_23 C (fun _ h => List.mem_cons_of_mem _ (List.mem_append_right _ h)) (hts _ (List.mem_of_getElem? (i := 1) rfl)) w (v := (mu 12 23)) rfl dX7_sentByte_6 ?_
    refine lv_icmp_lt (tgt := 16) hx hb dX7_sentByte_9 (by decide) (fun h9 => ?_) (fun h9 => ?_)
    · rw [if_pos h9]
      refine lv_aload_n hx hb dX7_sentByte_16 rfl (lv_at hl 0 rfl) ?_
      refine gt_12_30 C (fun _ h => List.mem_cons_of_mem _ (List.mem_append_right _ h)) (hts _ (List.mem_of_getElem? (i := 2) rfl)) w dX7_sentByte_17 ?_
      refine lv_iload_n hx hb dX7_sentByte_20 rfl (lv_at hl 1 rfl) ?_
      refine ia_22 C w (vin_lt2 h1 h9 hJ.2.2) (v := (mu 22 x1.toNatClampNeg)) rfl dX7_sentByte_21 ?_
      exact retI C w dX7_sentByte_22
    · rw [if_neg h9]
      refine lv_iconst (v := (-1 : Int32)) hx hb dX7_sentByte_12 (by decide) ?_
      refine lv_goto (tgt := 22) hx hb dX7_sentByte_13 (by decide) ?_
      exact retI C w dX7_sentByte_22
set_option maxHeartbeats 4000000 in
set_option maxRecDepth 100000 in
theorem c_Md_sentByte (l : Launch) (A : Nat → Prop) (D : va_G) (cA : Nat → ClassId) (tb : Nat) (ad : Nat → Nat) (mu nu : Mu) (x1 : Int32) (hJ : Jm mu) : Met l yX7_sentByte wsX7_sentByte ({ frames := 0, cells := 0, slots := 0, locals := 0 }) (va_Pc [.ref (ad 12), .int x1] (Pw A D cA tb ad nu mu)) (va_Qi (fun (r : Int32) (u : Mu × Mu) => r = F_Md_sentByte x1 mu ∧ u = (nu, mu)) (Bw A D cA ad) A) 0 0 A := by
  refine Met.ofW (cc := cX7_sentByte) (maxL := 2) (ret := (some .int)) (by decide) rfl ?_
  intro p e s m args below meth c s₁ B hml hv
  obtain ⟨rfl, w0⟩ := hv
  have C : Cx cX7_sentByte 2 (some .int) wsX7_sentByte RX7 A D cA tb p s m _ meth c := ⟨B.exec, B.bytes, B.returns, hml, findClass_of_methodNamed B.named, atoms_spec (ws := wsX7_sentByte) B.pre, B.notSynchronized, w0.2.1, w0.2.2.2.1, w0.2.2.2.2⟩
  have hl := lv_entry ([.ref (ad 12), .int x1]) (n := 2) (Nat.le_of_ble_eq_true rfl)
  rw [lg_entry_eq]
  exact k_Md_sentByte C w0.wd hl hJ
def F_Md_isSide (x0 : Int32) (mu : Mu) : Int32 := (if x0 = (0 : Int32) then 1 else (if x0 = (1 : Int32) then 1 else 0))
set_option maxHeartbeats 4000000 in
set_option maxRecDepth 100000 in
theorem k_Md_isSide (C : Cx cX7_isSide 1 (some .boolean) wsX7_isSide RX7 A D cA tb p s m args meth c) {mu nu : Mu} {x0 : Int32} {H : Heap} {locs : List Loc} {ls : Array Slot} (w : Wd A D cA ad s nu mu H locs) (hl : lv_has ls 1 [(0, .int x0)]) : W p l e { frames := 0, cells := 0, slots := 0, locals := 0 } s m args below meth c H locs 0 0 (QI A D cA ad below args s (F_Md_isSide x0 mu) nu mu) (F0 m 0 ls []) := by
  have hx := C.1
  have hb := C.2.1
  have hts := C.2.2.2.2.2.1
  have hown := C.2.2.2.2.1
  unfold F_Md_isSide
  refine lv_iload_n hx hb dX7_isSide_0 rfl (lv_at hl 0 rfl) ?_
  refine lv_if_eq (tgt := 9) hx hb dX7_isSide_1 (by decide) (fun h1 => ?_) (fun h1 => ?_)
  · rw [if_pos h1]
    refine lv_iconst (v := 1) hx hb dX7_isSide_9 (by decide) ?_
    refine lv_goto (tgt := 14) hx hb dX7_isSide_10 (by decide) ?_
    exact retZ C w dX7_isSide_14 (Or.inr rfl)
  · rw [if_neg h1]
    refine lv_iload_n hx hb dX7_isSide_4 rfl (lv_at hl 0 rfl) ?_
    refine lv_iconst (v := 1) hx hb dX7_isSide_5 (by decide) ?_
    refine lv_icmp_ne (tgt := 13) hx hb dX7_isSide_6 (by decide) (fun h6 => ?_) (fun h6 => ?_)
    · rw [if_neg h6]
      refine lv_iconst (v := 0) hx hb dX7_isSide_13 (by decide) ?_
      exact retZ C w dX7_isSide_14 (Or.inl rfl)
    · rw [if_pos h6]
      refine lv_iconst (v := 1) hx hb dX7_isSide_9 (by decide) ?_
      refine lv_goto (tgt := 14) hx hb dX7_isSide_10 (by decide) ?_
      exact retZ C w dX7_isSide_14 (Or.inr rfl)
set_option maxHeartbeats 4000000 in
set_option maxRecDepth 100000 in
theorem c_Md_isSide (l : Launch) (A : Nat → Prop) (D : va_G) (cA : Nat → ClassId) (tb : Nat) (ad : Nat → Nat) (mu nu : Mu) (x0 : Int32) : Met l yX7_isSide wsX7_isSide ({ frames := 0, cells := 0, slots := 0, locals := 0 }) (va_Pc [.int x0] (Pw A D cA tb ad nu mu)) (va_Qi (fun (r : Int32) (u : Mu × Mu) => r = F_Md_isSide x0 mu ∧ u = (nu, mu)) (Bw A D cA ad) A) 0 0 A := by
  refine Met.ofW (cc := cX7_isSide) (maxL := 1) (ret := (some .boolean)) (by decide) rfl ?_
  intro p e s m args below meth c s₁ B hml hv
  obtain ⟨rfl, w0⟩ := hv
  have C : Cx cX7_isSide 1 (some .boolean) wsX7_isSide RX7 A D cA tb p s m _ meth c := ⟨B.exec, B.bytes, B.returns, hml, findClass_of_methodNamed B.named, atoms_spec (ws := wsX7_isSide) B.pre, B.notSynchronized, w0.2.1, w0.2.2.2.1, w0.2.2.2.2⟩
  have hl := lv_entry ([.int x0]) (n := 1) (Nat.le_of_ble_eq_true rfl)
  rw [lg_entry_eq]
  exact k_Md_isSide C w0.wd hl
theorem side_of {x : Int32} {mu : Mu} (h : ¬ F_Md_isSide x mu = 0) : x = 0 ∨ x = 1 := by
  by_cases h0 : x = 0
  · exact Or.inl h0
  · by_cases h1 : x = 1
    · exact Or.inr h1
    · exact absurd (by unfold F_Md_isSide; rw [if_neg h0, if_neg h1]) h
def F_Md_pins (x1 : Int32) (x2 : Int32) (mu : Mu) : Int32 × Mu := (if (F_Md_isSide x1 mu) = (0 : Int32) then (0, mu) else (1, (ps mu 18 x1.toNatClampNeg (x2 &&& 255))))
set_option maxHeartbeats 4000000 in
set_option maxRecDepth 100000 in
theorem k_Md_pins (C : Cx cX7_pins 3 (some .boolean) wsX7_pins RX7 A D cA tb p s m args meth c) {mu nu : Mu} {x1 : Int32} {x2 : Int32} {H : Heap} {locs : List Loc} {ls : Array Slot} (w : Wd A D cA ad s nu mu H locs) (hl : lv_has ls 3 [(0, .ref (ad 12)), (1, .int x1), (2, .int x2)]) : W p l e { frames := 1, cells := 0, slots := 0, locals := 20 } s m args below meth c H locs 0 0 (QI A D cA ad below args s (F_Md_pins x1 x2 mu).1 nu (F_Md_pins x1 x2 mu).2) (F0 m 0 ls []) := by
  have hx := C.1
  have hb := C.2.1
  have hts := C.2.2.2.2.2.1
  have hown := C.2.2.2.2.1
  unfold F_Md_pins
  refine lv_iload_n hx hb dX7_pins_0 rfl (lv_at hl 1 rfl) ?_
  refine kcIS (As := [.int x1]) (rest := []) C w (c_Md_isSide l A D cA tb ad mu nu x1) (va_cwS 1 hts gX7_pins_X7_isSide rfl rfl rfl (by decide +kernel) ⟨Nat.le_of_ble_eq_true rfl, Nat.le_of_ble_eq_true rfl⟩) rfl rfl hl.1 (Nat.le_of_ble_eq_true rfl) dX7_pins_1 (fun H locs w => ?_)
  refine lv_if_ne (tgt := 9) hx hb dX7_pins_4 (by decide) (fun h4 => ?_) (fun h4 => ?_)
  · rw [if_neg h4]
    refine lv_aload_n hx hb dX7_pins_9 rfl (lv_at hl 0 rfl) ?_
    refine gt_12_13 C (fun _ h => List.mem_cons_of_mem _ (List.mem_append_right _ h)) (hts _ (List.mem_of_getElem? (i := 1) rfl)) w dX7_pins_10 ?_
    refine lv_iload_n hx hb dX7_pins_13 rfl (lv_at hl 1 rfl) ?_
    refine lv_iload_n hx hb dX7_pins_14 rfl (lv_at hl 2 rfl) ?_
    refine lv_sipush (v := 255) hx hb dX7_pins_15 (by decide) ?_
    refine lv_iand hx hb dX7_pins_18 ?_
    refine is_18 C w (v_side (side_of h4)) dX7_pins_19 (fun H locs w => ?_)
    refine lv_iconst (v := 1) hx hb dX7_pins_20 (by decide) ?_
    exact retZ C w dX7_pins_21 (Or.inr rfl)
  · rw [if_pos h4]
    refine lv_iconst (v := 0) hx hb dX7_pins_7 (by decide) ?_
    exact retZ C w dX7_pins_8 (Or.inl rfl)
set_option maxHeartbeats 4000000 in
set_option maxRecDepth 100000 in
theorem c_Md_pins (l : Launch) (A : Nat → Prop) (D : va_G) (cA : Nat → ClassId) (tb : Nat) (ad : Nat → Nat) (mu nu : Mu) (x1 : Int32) (x2 : Int32) : Met l yX7_pins wsX7_pins ({ frames := 1, cells := 0, slots := 0, locals := 20 }) (va_Pc [.ref (ad 12), .int x1, .int x2] (Pw A D cA tb ad nu mu)) (va_Qi (fun (r : Int32) (u : Mu × Mu) => r = (F_Md_pins x1 x2 mu).1 ∧ u = (nu, (F_Md_pins x1 x2 mu).2)) (Bw A D cA ad) A) 0 0 A := by
  refine Met.ofW (cc := cX7_pins) (maxL := 3) (ret := (some .boolean)) (by decide) rfl ?_
  intro p e s m args below meth c s₁ B hml hv
  obtain ⟨rfl, w0⟩ := hv
  have C : Cx cX7_pins 3 (some .boolean) wsX7_pins RX7 A D cA tb p s m _ meth c := ⟨B.exec, B.bytes, B.returns, hml, findClass_of_methodNamed B.named, atoms_spec (ws := wsX7_pins) B.pre, B.notSynchronized, w0.2.1, w0.2.2.2.1, w0.2.2.2.2⟩
  have hl := lv_entry ([.ref (ad 12), .int x1, .int x2]) (n := 3) (Nat.le_of_ble_eq_true rfl)
  rw [lg_entry_eq]
  exact k_Md_pins C w0.wd hl
def F_Md_line_150 (x1 : Int32) (x2 : Int32) (y1 : Int32) (y2 : Int32) (y3 : Int32) (mu : Mu) : Int32 × Mu := (if x2 = (1 : Int32) then (if (F_Md_answers x1 (ps mu 17 y1.toNatClampNeg (y2 ||| y3))) = (0 : Int32) then (1, (ps mu 17 y1.toNatClampNeg (y2 ||| y3))) else (if (((ps mu 17 y1.toNatClampNeg (y2 ||| y3)) 17 x1.toNatClampNeg) &&& 8) = (0 : Int32) then (1, (ps (ps mu 17 y1.toNatClampNeg (y2 ||| y3)) 20 x1.toNatClampNeg 1)) else (1, (ps mu 17 y1.toNatClampNeg (y2 ||| y3))))) else (1, (ps mu 17 y1.toNatClampNeg (y2 ||| y3))))
set_option maxHeartbeats 4000000 in
set_option maxRecDepth 100000 in
theorem k_Md_line_150 (C : Cx cX7_line 7 (some .boolean) wsX7_line RX7 A D cA tb p s m args meth c) {mu nu : Mu} {x1 : Int32} {x2 : Int32} {y1 : Int32} {y2 : Int32} {y3 : Int32} {H : Heap} {locs : List Loc} {ls : Array Slot} (w : Wd A D cA ad s nu mu H locs) (hl : lv_has ls 7 [(0, .ref (ad 12)), (1, .int x1), (2, .int x2)]) (hs : x1 = 0 ∨ x1 = 1) (hy : y1 = 0 ∨ y1 = 1) : W p l e { frames := 1, cells := 0, slots := 0, locals := 21 } s m args below meth c H locs 0 0 (QI A D cA ad below args s (F_Md_line_150 x1 x2 y1 y2 y3 mu).1 nu (F_Md_line_150 x1 x2 y1 y2 y3 mu).2) (F0 m 150 ls [.int y3, .int y2, .int y1, .ref (ad 17)]) := by
  have hx := C.1
  have hb := C.2.1
  have hts := C.2.2.2.2.2.1
  have hown := C.2.2.2.2.1
  unfold F_Md_line_150
  refine lv_ior hx hb dX7_line_150 ?_
  refine is_17 C w (v_side hy) dX7_line_151 (fun H locs w => ?_)
  refine lv_iload_n hx hb dX7_line_152 rfl (lv_at hl 2 rfl) ?_
  refine lv_iconst (v := 1) hx hb dX7_line_153 (by decide) ?_
  refine lv_icmp_ne (tgt := 184) hx hb dX7_line_154 (by decide) (fun h154 => ?_) (fun h154 => ?_)
  · rw [if_neg h154]
    refine lv_iconst (v := 1) hx hb dX7_line_184 (by decide) ?_
    exact retZ C w dX7_line_185 (Or.inr rfl)
  · rw [if_pos h154]
    refine lv_aload_n hx hb dX7_line_157 rfl (lv_at hl 0 rfl) ?_
    refine lv_iload_n hx hb dX7_line_158 rfl (lv_at hl 1 rfl) ?_
    refine kcI (k := 12) (ci := 7) (As := [.int x1]) (rest := []) C w rfl rfl (c_Md_answers l A D cA tb ad (ps mu 17 y1.toNatClampNeg (y2 ||| y3)) nu x1 hs) (cwV 1 hts gX7_line_X7_answers rfl rfl rfl (by decide +kernel) ⟨Nat.le_of_ble_eq_true rfl, Nat.le_of_ble_eq_true rfl⟩) rfl rfl hl.1 (Nat.le_of_ble_eq_true rfl) dX7_line_159 (fun H locs w => ?_)
    refine lv_if_eq (tgt := 184) hx hb dX7_line_162 (by decide) (fun h162 => ?_) (fun h162 => ?_)
    · rw [if_pos h162]
      refine lv_iconst (v := 1) hx hb dX7_line_184 (by decide) ?_
      exact retZ C w dX7_line_185 (Or.inr rfl)
    · rw [if_neg h162]
      refine lv_aload_n hx hb dX7_line_165 rfl (lv_at hl 0 rfl) ?_
      refine gt_12_12 C (fun _ h => List.mem_cons_of_mem _ (List.mem_append_right _ h)) (hts _ (List.mem_of_getElem? (i := 1) rfl)) w dX7_line_166 ?_
      refine lv_iload_n hx hb dX7_line_169 rfl (lv_at hl 1 rfl) ?_
      refine ia_17 C w (v_side hs) (v := ((ps mu 17 y1.toNatClampNeg (y2 ||| y3)) 17 x1.toNatClampNeg)) rfl dX7_line_170 ?_
      refine lv_bipush (v := 8) hx hb dX7_line_171 (by decide) ?_
      refine lv_iand hx hb dX7_line_173 ?_
      refine lv_if_ne (tgt := 184) hx hb dX7_line_174 (by decide) (fun h174 => ?_) (fun h174 => ?_)
      · rw [if_neg h174]
        refine lv_iconst (v := 1) hx hb dX7_line_184 (by decide) ?_
        exact retZ C w dX7_line_185 (Or.inr rfl)
      · rw [if_pos h174]
        refine lv_aload_n hx hb dX7_line_177 rfl (lv_at hl 0 rfl) ?_
        refine gt_12_15 C (fun _ h => List.mem_cons_of_mem _ (List.mem_append_right _ h)) (hts _ (List.mem_of_getElem? (i := 3) rfl)) w dX7_line_178 ?_
        refine lv_iload_n hx hb dX7_line_181 rfl (lv_at hl 1 rfl) ?_
        refine lv_iconst (v := 1) hx hb dX7_line_182 (by decide) ?_
        refine is_20 C w (v_side hs) dX7_line_183 (fun H locs w => ?_)
        refine lv_iconst (v := 1) hx hb dX7_line_184 (by decide) ?_
        exact retZ C w dX7_line_185 (Or.inr rfl)
def F_Md_line_109 (x1 : Int32) (x2 : Int32) (x4 : Int32) (x5 : Int32) (y0 : Int32) (y1 : Int32) (mu : Mu) : Int32 × Mu := (if x4 = x5 then (1, mu) else (if x4 = ((y0 >>> (y1 &&& 31)) &&& 1) then (if x2 = (1 : Int32) then F_Md_line_150 x1 x2 x1 (mu 17 x1.toNatClampNeg) 128 mu else F_Md_line_150 x1 x2 x1 (mu 17 x1.toNatClampNeg) 64 mu) else (1, mu)))
set_option maxHeartbeats 4000000 in
set_option maxRecDepth 100000 in
theorem k_Md_line_109 (C : Cx cX7_line 7 (some .boolean) wsX7_line RX7 A D cA tb p s m args meth c) {mu nu : Mu} {x1 : Int32} {x2 : Int32} {x4 : Int32} {x5 : Int32} {y0 : Int32} {y1 : Int32} {H : Heap} {locs : List Loc} {ls : Array Slot} (w : Wd A D cA ad s nu mu H locs) (hl : lv_has ls 7 [(0, .ref (ad 12)), (1, .int x1), (2, .int x2), (4, .int x4), (5, .int x5)]) (hs : x1 = 0 ∨ x1 = 1) : W p l e { frames := 1, cells := 0, slots := 0, locals := 21 } s m args below meth c H locs 0 0 (QI A D cA ad below args s (F_Md_line_109 x1 x2 x4 x5 y0 y1 mu).1 nu (F_Md_line_109 x1 x2 x4 x5 y0 y1 mu).2) (F0 m 109 ls [.int y1, .int y0]) := by
  have hx := C.1
  have hb := C.2.1
  have hts := C.2.2.2.2.2.1
  have hown := C.2.2.2.2.1
  unfold F_Md_line_109
  refine lv_ishr hx hb dX7_line_109 ?_
  refine lv_iconst (v := 1) hx hb dX7_line_110 (by decide) ?_
  refine lv_iand hx hb dX7_line_111 ?_
  refine lv_istore (lv' := [(6, .int (((y0 >>> (y1 &&& 31)) &&& 1))), (0, .ref (ad 12)), (1, .int x1), (2, .int x2), (4, .int x4), (5, .int x5)]) hx hb dX7_line_112 hl (by decide) rfl (fun ls hl => ?_)
  refine lv_iload hx hb dX7_line_114 (lv_at hl 4 rfl) ?_
  refine lv_iload hx hb dX7_line_116 (lv_at hl 5 rfl) ?_
  refine lv_icmp_eq (tgt := 128) hx hb dX7_line_118 (by decide) (fun h118 => ?_) (fun h118 => ?_)
  · rw [if_pos h118]
    refine lv_iconst (v := 1) hx hb dX7_line_128 (by decide) ?_
    exact retZ C w dX7_line_129 (Or.inr rfl)
  · rw [if_neg h118]
    refine lv_iload hx hb dX7_line_121 (lv_at hl 4 rfl) ?_
    refine lv_iload hx hb dX7_line_123 (lv_at hl 0 rfl) ?_
    refine lv_icmp_eq (tgt := 130) hx hb dX7_line_125 (by decide) (fun h125 => ?_) (fun h125 => ?_)
    · rw [if_pos h125]
      refine lv_aload_n hx hb dX7_line_130 rfl (lv_at hl 1 rfl) ?_
      refine gt_12_12 C (fun _ h => List.mem_cons_of_mem _ (List.mem_append_right _ h)) (hts _ (List.mem_of_getElem? (i := 1) rfl)) w dX7_line_131 ?_
      refine lv_iload_n hx hb dX7_line_134 rfl (lv_at hl 2 rfl) ?_
      refine lv_dup2_11 hx hb dX7_line_135 rfl rfl ?_
      refine ia_17 C w (v_side hs) (v := (mu 17 x1.toNatClampNeg)) rfl dX7_line_136 ?_
      refine lv_iload_n hx hb dX7_line_137 rfl (lv_at hl 3 rfl) ?_
      refine lv_iconst (v := 1) hx hb dX7_line_138 (by decide) ?_
      refine lv_icmp_ne (tgt := 148) hx hb dX7_line_139 (by decide) (fun h139 => ?_) (fun h139 => ?_)
      · rw [if_neg h139]
        refine lv_bipush (v := 64) hx hb dX7_line_148 (by decide) ?_
        exact k_Md_line_150 C w (lv_sub hl [1, 2, 3] rfl) hs hs
      · rw [if_pos h139]
        refine lv_sipush (v := 128) hx hb dX7_line_142 (by decide) ?_
        refine lv_goto (tgt := 150) hx hb dX7_line_145 (by decide) ?_
        exact k_Md_line_150 C w (lv_sub hl [1, 2, 3] rfl) hs hs
    · rw [if_neg h125]
      refine lv_iconst (v := 1) hx hb dX7_line_128 (by decide) ?_
      exact retZ C w dX7_line_129 (Or.inr rfl)
def F_Md_line_93 (x1 : Int32) (x2 : Int32) (x4 : Int32) (x5 : Int32) (mu : Mu) : Int32 × Mu := (if x2 = (1 : Int32) then F_Md_line_109 x1 x2 x4 x5 (mu 17 x1.toNatClampNeg) 1 mu else F_Md_line_109 x1 x2 x4 x5 (mu 17 x1.toNatClampNeg) 4 mu)
set_option maxHeartbeats 4000000 in
set_option maxRecDepth 100000 in
theorem k_Md_line_93 (C : Cx cX7_line 7 (some .boolean) wsX7_line RX7 A D cA tb p s m args meth c) {mu nu : Mu} {x1 : Int32} {x2 : Int32} {x4 : Int32} {x5 : Int32} {H : Heap} {locs : List Loc} {ls : Array Slot} (w : Wd A D cA ad s nu mu H locs) (hl : lv_has ls 7 [(0, .ref (ad 12)), (1, .int x1), (2, .int x2), (4, .int x4), (5, .int x5)]) (hs : x1 = 0 ∨ x1 = 1) : W p l e { frames := 1, cells := 0, slots := 0, locals := 21 } s m args below meth c H locs 0 0 (QI A D cA ad below args s (F_Md_line_93 x1 x2 x4 x5 mu).1 nu (F_Md_line_93 x1 x2 x4 x5 mu).2) (F0 m 93 ls []) := by
  have hx := C.1
  have hb := C.2.1
  have hts := C.2.2.2.2.2.1
  have hown := C.2.2.2.2.1
  unfold F_Md_line_93
  refine lv_aload_n hx hb dX7_line_93 rfl (lv_at hl 0 rfl) ?_
  refine gt_12_12 C (fun _ h => List.mem_cons_of_mem _ (List.mem_append_right _ h)) (hts _ (List.mem_of_getElem? (i := 1) rfl)) w dX7_line_94 ?_
  refine lv_iload_n hx hb dX7_line_97 rfl (lv_at hl 1 rfl) ?_
  refine ia_17 C w (v_side hs) (v := (mu 17 x1.toNatClampNeg)) rfl dX7_line_98 ?_
  refine lv_iload_n hx hb dX7_line_99 rfl (lv_at hl 2 rfl) ?_
  refine lv_iconst (v := 1) hx hb dX7_line_100 (by decide) ?_
  refine lv_icmp_ne (tgt := 108) hx hb dX7_line_101 (by decide) (fun h101 => ?_) (fun h101 => ?_)
  · rw [if_neg h101]
    refine lv_iconst (v := 4) hx hb dX7_line_108 (by decide) ?_
    exact k_Md_line_109 C w (lv_sub hl [0, 1, 2, 3, 4] rfl) hs
  · rw [if_pos h101]
    refine lv_iconst (v := 1) hx hb dX7_line_104 (by decide) ?_
    refine lv_goto (tgt := 109) hx hb dX7_line_105 (by decide) ?_
    exact k_Md_line_109 C w (lv_sub hl [0, 1, 2, 3, 4] rfl) hs
def F_Md_line_67 (x1 : Int32) (x2 : Int32) (x4 : Int32) (y0 : Int32) (mu : Mu) : Int32 × Mu := (if x2 = (1 : Int32) then F_Md_line_93 x1 x2 x4 y0 (ps mu 19 x1.toNatClampNeg x4) else F_Md_line_93 x1 x2 x4 y0 (ps mu 20 x1.toNatClampNeg x4))
set_option maxHeartbeats 4000000 in
set_option maxRecDepth 100000 in
theorem k_Md_line_67 (C : Cx cX7_line 7 (some .boolean) wsX7_line RX7 A D cA tb p s m args meth c) {mu nu : Mu} {x1 : Int32} {x2 : Int32} {x4 : Int32} {y0 : Int32} {H : Heap} {locs : List Loc} {ls : Array Slot} (w : Wd A D cA ad s nu mu H locs) (hl : lv_has ls 7 [(0, .ref (ad 12)), (1, .int x1), (2, .int x2), (4, .int x4)]) (hs : x1 = 0 ∨ x1 = 1) : W p l e { frames := 1, cells := 0, slots := 0, locals := 21 } s m args below meth c H locs 0 0 (QI A D cA ad below args s (F_Md_line_67 x1 x2 x4 y0 mu).1 nu (F_Md_line_67 x1 x2 x4 y0 mu).2) (F0 m 67 ls [.int y0]) := by
  have hx := C.1
  have hb := C.2.1
  have hts := C.2.2.2.2.2.1
  have hown := C.2.2.2.2.1
  unfold F_Md_line_67
  refine lv_istore (lv' := [(5, .int y0), (0, .ref (ad 12)), (1, .int x1), (2, .int x2), (4, .int x4)]) hx hb dX7_line_67 hl (by decide) rfl (fun ls hl => ?_)
  refine lv_iload_n hx hb dX7_line_69 rfl (lv_at hl 3 rfl) ?_
  refine lv_iconst (v := 1) hx hb dX7_line_70 (by decide) ?_
  refine lv_icmp_ne (tgt := 85) hx hb dX7_line_71 (by decide) (fun h71 => ?_) (fun h71 => ?_)
  · rw [if_neg h71]
    refine lv_aload_n hx hb dX7_line_85 rfl (lv_at hl 1 rfl) ?_
    refine gt_12_15 C (fun _ h => List.mem_cons_of_mem _ (List.mem_append_right _ h)) (hts _ (List.mem_of_getElem? (i := 3) rfl)) w dX7_line_86 ?_
    refine lv_iload_n hx hb dX7_line_89 rfl (lv_at hl 2 rfl) ?_
    refine lv_iload hx hb dX7_line_90 (lv_at hl 4 rfl) ?_
    refine is_20 C w (v_side hs) dX7_line_92 (fun H locs w => ?_)
    exact k_Md_line_93 C w (lv_sub hl [1, 2, 3, 4, 0] rfl) hs
  · rw [if_pos h71]
    refine lv_aload_n hx hb dX7_line_74 rfl (lv_at hl 1 rfl) ?_
    refine gt_12_14 C (fun _ h => List.mem_cons_of_mem _ (List.mem_append_right _ h)) (hts _ (List.mem_of_getElem? (i := 2) rfl)) w dX7_line_75 ?_
    refine lv_iload_n hx hb dX7_line_78 rfl (lv_at hl 2 rfl) ?_
    refine lv_iload hx hb dX7_line_79 (lv_at hl 4 rfl) ?_
    refine is_19 C w (v_side hs) dX7_line_81 (fun H locs w => ?_)
    refine lv_goto (tgt := 93) hx hb dX7_line_82 (by decide) ?_
    exact k_Md_line_93 C w (lv_sub hl [1, 2, 3, 4, 0] rfl) hs
def F_Md_line_45 (x1 : Int32) (x2 : Int32) (y0 : Int32) (mu : Mu) : Int32 × Mu := (if x2 = (1 : Int32) then F_Md_line_67 x1 x2 y0 (mu 19 x1.toNatClampNeg) mu else F_Md_line_67 x1 x2 y0 (mu 20 x1.toNatClampNeg) mu)
set_option maxHeartbeats 4000000 in
set_option maxRecDepth 100000 in
theorem k_Md_line_45 (C : Cx cX7_line 7 (some .boolean) wsX7_line RX7 A D cA tb p s m args meth c) {mu nu : Mu} {x1 : Int32} {x2 : Int32} {y0 : Int32} {H : Heap} {locs : List Loc} {ls : Array Slot} (w : Wd A D cA ad s nu mu H locs) (hl : lv_has ls 7 [(0, .ref (ad 12)), (1, .int x1), (2, .int x2)]) (hs : x1 = 0 ∨ x1 = 1) : W p l e { frames := 1, cells := 0, slots := 0, locals := 21 } s m args below meth c H locs 0 0 (QI A D cA ad below args s (F_Md_line_45 x1 x2 y0 mu).1 nu (F_Md_line_45 x1 x2 y0 mu).2) (F0 m 45 ls [.int y0]) := by
  have hx := C.1
  have hb := C.2.1
  have hts := C.2.2.2.2.2.1
  have hown := C.2.2.2.2.1
  unfold F_Md_line_45
  refine lv_istore (lv' := [(4, .int y0), (0, .ref (ad 12)), (1, .int x1), (2, .int x2)]) hx hb dX7_line_45 hl (by decide) rfl (fun ls hl => ?_)
  refine lv_iload_n hx hb dX7_line_47 rfl (lv_at hl 3 rfl) ?_
  refine lv_iconst (v := 1) hx hb dX7_line_48 (by decide) ?_
  refine lv_icmp_ne (tgt := 61) hx hb dX7_line_49 (by decide) (fun h49 => ?_) (fun h49 => ?_)
  · rw [if_neg h49]
    refine lv_aload_n hx hb dX7_line_61 rfl (lv_at hl 1 rfl) ?_
    refine gt_12_15 C (fun _ h => List.mem_cons_of_mem _ (List.mem_append_right _ h)) (hts _ (List.mem_of_getElem? (i := 3) rfl)) w dX7_line_62 ?_
    refine lv_iload_n hx hb dX7_line_65 rfl (lv_at hl 2 rfl) ?_
    refine ia_20 C w (v_side hs) (v := (mu 20 x1.toNatClampNeg)) rfl dX7_line_66 ?_
    exact k_Md_line_67 C w (lv_sub hl [1, 2, 3, 0] rfl) hs
  · rw [if_pos h49]
    refine lv_aload_n hx hb dX7_line_52 rfl (lv_at hl 1 rfl) ?_
    refine gt_12_14 C (fun _ h => List.mem_cons_of_mem _ (List.mem_append_right _ h)) (hts _ (List.mem_of_getElem? (i := 2) rfl)) w dX7_line_53 ?_
    refine lv_iload_n hx hb dX7_line_56 rfl (lv_at hl 2 rfl) ?_
    refine ia_19 C w (v_side hs) (v := (mu 19 x1.toNatClampNeg)) rfl dX7_line_57 ?_
    refine lv_goto (tgt := 67) hx hb dX7_line_58 (by decide) ?_
    exact k_Md_line_67 C w (lv_sub hl [1, 2, 3, 0] rfl) hs
def F_Md_line_36 (x1 : Int32) (x2 : Int32) (x3 : Int32) (mu : Mu) : Int32 × Mu := (if x3 = (0 : Int32) then F_Md_line_45 x1 x2 0 mu else F_Md_line_45 x1 x2 1 mu)
set_option maxHeartbeats 4000000 in
set_option maxRecDepth 100000 in
theorem k_Md_line_36 (C : Cx cX7_line 7 (some .boolean) wsX7_line RX7 A D cA tb p s m args meth c) {mu nu : Mu} {x1 : Int32} {x2 : Int32} {x3 : Int32} {H : Heap} {locs : List Loc} {ls : Array Slot} (w : Wd A D cA ad s nu mu H locs) (hl : lv_has ls 7 [(0, .ref (ad 12)), (1, .int x1), (2, .int x2), (3, .int x3)]) (hs : x1 = 0 ∨ x1 = 1) : W p l e { frames := 1, cells := 0, slots := 0, locals := 21 } s m args below meth c H locs 0 0 (QI A D cA ad below args s (F_Md_line_36 x1 x2 x3 mu).1 nu (F_Md_line_36 x1 x2 x3 mu).2) (F0 m 36 ls []) := by
  have hx := C.1
  have hb := C.2.1
  have hts := C.2.2.2.2.2.1
  have hown := C.2.2.2.2.1
  unfold F_Md_line_36
  refine lv_iload_n hx hb dX7_line_36 rfl (lv_at hl 3 rfl) ?_
  refine lv_if_eq (tgt := 44) hx hb dX7_line_37 (by decide) (fun h37 => ?_) (fun h37 => ?_)
  · rw [if_pos h37]
    refine lv_iconst (v := 0) hx hb dX7_line_44 (by decide) ?_
    exact k_Md_line_45 C w (lv_sub hl [0, 1, 2] rfl) hs
  · rw [if_neg h37]
    refine lv_iconst (v := 1) hx hb dX7_line_40 (by decide) ?_
    refine lv_goto (tgt := 45) hx hb dX7_line_41 (by decide) ?_
    exact k_Md_line_45 C w (lv_sub hl [0, 1, 2] rfl) hs
def F_Md_line (x1 : Int32) (x2 : Int32) (x3 : Int32) (mu : Mu) : Int32 × Mu := (if (F_Md_isSide x1 mu) = (0 : Int32) then (0, mu) else (if x2 < (1 : Int32) then (0, mu) else (if (2 : Int32) < x2 then (0, mu) else (if x2 = (2 : Int32) then (if ((mu 17 x1.toNatClampNeg) &&& 32) = (0 : Int32) then F_Md_line_36 x1 x2 x3 mu else (0, mu)) else F_Md_line_36 x1 x2 x3 mu))))
set_option maxHeartbeats 4000000 in
set_option maxRecDepth 100000 in
theorem k_Md_line (C : Cx cX7_line 7 (some .boolean) wsX7_line RX7 A D cA tb p s m args meth c) {mu nu : Mu} {x1 : Int32} {x2 : Int32} {x3 : Int32} {H : Heap} {locs : List Loc} {ls : Array Slot} (w : Wd A D cA ad s nu mu H locs) (hl : lv_has ls 7 [(0, .ref (ad 12)), (1, .int x1), (2, .int x2), (3, .int x3)]) : W p l e { frames := 1, cells := 0, slots := 0, locals := 21 } s m args below meth c H locs 0 0 (QI A D cA ad below args s (F_Md_line x1 x2 x3 mu).1 nu (F_Md_line x1 x2 x3 mu).2) (F0 m 0 ls []) := by
  have hx := C.1
  have hb := C.2.1
  have hts := C.2.2.2.2.2.1
  have hown := C.2.2.2.2.1
  unfold F_Md_line
  refine lv_iload_n hx hb dX7_line_0 rfl (lv_at hl 1 rfl) ?_
  refine kcIS (As := [.int x1]) (rest := []) C w (c_Md_isSide l A D cA tb ad mu nu x1) (va_cwS 1 hts gX7_line_X7_isSide rfl rfl rfl (by decide +kernel) ⟨Nat.le_of_ble_eq_true rfl, Nat.le_of_ble_eq_true rfl⟩) rfl rfl hl.1 (Nat.le_of_ble_eq_true rfl) dX7_line_1 (fun H locs w => ?_)
  refine lv_if_eq (tgt := 34) hx hb dX7_line_4 (by decide) (fun h4 => ?_) (fun h4 => ?_)
  · rw [if_pos h4]
    refine lv_iconst (v := 0) hx hb dX7_line_34 (by decide) ?_
    exact retZ C w dX7_line_35 (Or.inl rfl)
  · rw [if_neg h4]
    refine lv_iload_n hx hb dX7_line_7 rfl (lv_at hl 2 rfl) ?_
    refine lv_iconst (v := 1) hx hb dX7_line_8 (by decide) ?_
    refine lv_icmp_lt (tgt := 34) hx hb dX7_line_9 (by decide) (fun h9 => ?_) (fun h9 => ?_)
    · rw [if_pos h9]
      refine lv_iconst (v := 0) hx hb dX7_line_34 (by decide) ?_
      exact retZ C w dX7_line_35 (Or.inl rfl)
    · rw [if_neg h9]
      refine lv_iload_n hx hb dX7_line_12 rfl (lv_at hl 2 rfl) ?_
      refine lv_iconst (v := 2) hx hb dX7_line_13 (by decide) ?_
      refine lv_icmp_gt (tgt := 34) hx hb dX7_line_14 (by decide) (fun h14 => ?_) (fun h14 => ?_)
      · rw [if_pos h14]
        refine lv_iconst (v := 0) hx hb dX7_line_34 (by decide) ?_
        exact retZ C w dX7_line_35 (Or.inl rfl)
      · rw [if_neg h14]
        refine lv_iload_n hx hb dX7_line_17 rfl (lv_at hl 2 rfl) ?_
        refine lv_iconst (v := 2) hx hb dX7_line_18 (by decide) ?_
        refine lv_icmp_ne (tgt := 36) hx hb dX7_line_19 (by decide) (fun h19 => ?_) (fun h19 => ?_)
        · rw [if_neg h19]
          exact k_Md_line_36 C w (lv_sub hl [0, 1, 2, 3] rfl) (side_of h4)
        · rw [if_pos h19]
          refine lv_aload_n hx hb dX7_line_22 rfl (lv_at hl 0 rfl) ?_
          refine gt_12_12 C (fun _ h => List.mem_cons_of_mem _ (List.mem_append_right _ h)) (hts _ (List.mem_of_getElem? (i := 1) rfl)) w dX7_line_23 ?_
          refine lv_iload_n hx hb dX7_line_26 rfl (lv_at hl 1 rfl) ?_
          refine ia_17 C w (v_side (side_of h4)) (v := (mu 17 x1.toNatClampNeg)) rfl dX7_line_27 ?_
          refine lv_bipush (v := 32) hx hb dX7_line_28 (by decide) ?_
          refine lv_iand hx hb dX7_line_30 ?_
          refine lv_if_eq (tgt := 36) hx hb dX7_line_31 (by decide) (fun h31 => ?_) (fun h31 => ?_)
          · rw [if_pos h31]
            exact k_Md_line_36 C w (lv_sub hl [0, 1, 2, 3] rfl) (side_of h4)
          · rw [if_neg h31]
            refine lv_iconst (v := 0) hx hb dX7_line_34 (by decide) ?_
            exact retZ C w dX7_line_35 (Or.inl rfl)
set_option maxHeartbeats 4000000 in
set_option maxRecDepth 100000 in
theorem c_Md_line (l : Launch) (A : Nat → Prop) (D : va_G) (cA : Nat → ClassId) (tb : Nat) (ad : Nat → Nat) (mu nu : Mu) (x1 : Int32) (x2 : Int32) (x3 : Int32) : Met l yX7_line wsX7_line ({ frames := 1, cells := 0, slots := 0, locals := 21 }) (va_Pc [.ref (ad 12), .int x1, .int x2, .int x3] (Pw A D cA tb ad nu mu)) (va_Qi (fun (r : Int32) (u : Mu × Mu) => r = (F_Md_line x1 x2 x3 mu).1 ∧ u = (nu, (F_Md_line x1 x2 x3 mu).2)) (Bw A D cA ad) A) 0 0 A := by
  refine Met.ofW (cc := cX7_line) (maxL := 7) (ret := (some .boolean)) (by decide) rfl ?_
  intro p e s m args below meth c s₁ B hml hv
  obtain ⟨rfl, w0⟩ := hv
  have C : Cx cX7_line 7 (some .boolean) wsX7_line RX7 A D cA tb p s m _ meth c := ⟨B.exec, B.bytes, B.returns, hml, findClass_of_methodNamed B.named, atoms_spec (ws := wsX7_line) B.pre, B.notSynchronized, w0.2.1, w0.2.2.2.1, w0.2.2.2.2⟩
  have hl := lv_entry ([.ref (ad 12), .int x1, .int x2, .int x3]) (n := 7) (Nat.le_of_ble_eq_true rfl)
  rw [lg_entry_eq]
  exact k_Md_line C w0.wd hl
def F_Md_port (x1 : Int32) (x2 : Int32) (mu : Mu) : Int32 := (if (F_Md_isSide x1 mu) = (0 : Int32) then (-1 : Int32) else (if x2 = 0 then ((mu 15 x1.toNatClampNeg) &&& (mu 16 x1.toNatClampNeg)) else (if x2 = 1 then (mu 16 x1.toNatClampNeg) else (if x2 = 2 then (mu 17 x1.toNatClampNeg) else (if x2 = 3 then (mu 19 x1.toNatClampNeg) else (if x2 = 4 then (mu 20 x1.toNatClampNeg) else (if x2 = 5 then (mu 18 x1.toNatClampNeg) else (-1 : Int32))))))))
set_option maxHeartbeats 4000000 in
set_option maxRecDepth 100000 in
theorem k_Md_port (C : Cx cX7_port 3 (some .int) wsX7_port RX7 A D cA tb p s m args meth c) {mu nu : Mu} {x1 : Int32} {x2 : Int32} {H : Heap} {locs : List Loc} {ls : Array Slot} (w : Wd A D cA ad s nu mu H locs) (hl : lv_has ls 3 [(0, .ref (ad 12)), (1, .int x1), (2, .int x2)]) : W p l e { frames := 1, cells := 0, slots := 0, locals := 20 } s m args below meth c H locs 0 0 (QI A D cA ad below args s (F_Md_port x1 x2 mu) nu mu) (F0 m 0 ls []) := by
  have hx := C.1
  have hb := C.2.1
  have hts := C.2.2.2.2.2.1
  have hown := C.2.2.2.2.1
  unfold F_Md_port
  refine lv_iload_n hx hb dX7_port_0 rfl (lv_at hl 1 rfl) ?_
  refine kcIS (As := [.int x1]) (rest := []) C w (c_Md_isSide l A D cA tb ad mu nu x1) (va_cwS 1 hts gX7_port_X7_isSide rfl rfl rfl (by decide +kernel) ⟨Nat.le_of_ble_eq_true rfl, Nat.le_of_ble_eq_true rfl⟩) rfl rfl hl.1 (Nat.le_of_ble_eq_true rfl) dX7_port_1 (fun H locs w => ?_)
  refine lv_if_ne (tgt := 9) hx hb dX7_port_4 (by decide) (fun h4 => ?_) (fun h4 => ?_)
  · rw [if_neg h4]
    refine lv_iload_n hx hb dX7_port_9 rfl (lv_at hl 2 rfl) ?_
    by_cases h10_0 : x2 = (0 : Int32)
    · rw [if_pos h10_0]
      refine lv_tableIn (off := 38) (tgt := 48) hx hb dX7_port_10 (by rw [h10_0]; decide) (by rw [h10_0]; decide) (by rw [h10_0]; decide) (by decide) ?_
      refine lv_aload_n hx hb dX7_port_48 rfl (lv_at hl 0 rfl) ?_
      refine gt_12_10 C (fun _ h => List.mem_cons_of_mem _ (List.mem_append_right _ h)) (hts _ (List.mem_of_getElem? (i := 1) rfl)) w dX7_port_49 ?_
      refine lv_iload_n hx hb dX7_port_52 rfl (lv_at hl 1 rfl) ?_
      refine ia_15 C w (v_side (side_of h4)) (v := (mu 15 x1.toNatClampNeg)) rfl dX7_port_53 ?_
      refine lv_aload_n hx hb dX7_port_54 rfl (lv_at hl 0 rfl) ?_
      refine gt_12_11 C (fun _ h => List.mem_cons_of_mem _ (List.mem_append_right _ h)) (hts _ (List.mem_of_getElem? (i := 2) rfl)) w dX7_port_55 ?_
      refine lv_iload_n hx hb dX7_port_58 rfl (lv_at hl 1 rfl) ?_
      refine ia_16 C w (v_side (side_of h4)) (v := (mu 16 x1.toNatClampNeg)) rfl dX7_port_59 ?_
      refine lv_iand hx hb dX7_port_60 ?_
      exact retI C w dX7_port_61
    · rw [if_neg h10_0]
      by_cases h10_1 : x2 = (1 : Int32)
      · rw [if_pos h10_1]
        refine lv_tableIn (off := 52) (tgt := 62) hx hb dX7_port_10 (by rw [h10_1]; decide) (by rw [h10_1]; decide) (by rw [h10_1]; decide) (by decide) ?_
        refine lv_aload_n hx hb dX7_port_62 rfl (lv_at hl 0 rfl) ?_
        refine gt_12_11 C (fun _ h => List.mem_cons_of_mem _ (List.mem_append_right _ h)) (hts _ (List.mem_of_getElem? (i := 2) rfl)) w dX7_port_63 ?_
        refine lv_iload_n hx hb dX7_port_66 rfl (lv_at hl 1 rfl) ?_
        refine ia_16 C w (v_side (side_of h4)) (v := (mu 16 x1.toNatClampNeg)) rfl dX7_port_67 ?_
        exact retI C w dX7_port_68
      · rw [if_neg h10_1]
        by_cases h10_2 : x2 = (2 : Int32)
        · rw [if_pos h10_2]
          refine lv_tableIn (off := 59) (tgt := 69) hx hb dX7_port_10 (by rw [h10_2]; decide) (by rw [h10_2]; decide) (by rw [h10_2]; decide) (by decide) ?_
          refine lv_aload_n hx hb dX7_port_69 rfl (lv_at hl 0 rfl) ?_
          refine gt_12_12 C (fun _ h => List.mem_cons_of_mem _ (List.mem_append_right _ h)) (hts _ (List.mem_of_getElem? (i := 3) rfl)) w dX7_port_70 ?_
          refine lv_iload_n hx hb dX7_port_73 rfl (lv_at hl 1 rfl) ?_
          refine ia_17 C w (v_side (side_of h4)) (v := (mu 17 x1.toNatClampNeg)) rfl dX7_port_74 ?_
          exact retI C w dX7_port_75
        · rw [if_neg h10_2]
          by_cases h10_3 : x2 = (3 : Int32)
          · rw [if_pos h10_3]
            refine lv_tableIn (off := 66) (tgt := 76) hx hb dX7_port_10 (by rw [h10_3]; decide) (by rw [h10_3]; decide) (by rw [h10_3]; decide) (by decide) ?_
            refine lv_aload_n hx hb dX7_port_76 rfl (lv_at hl 0 rfl) ?_
            refine gt_12_14 C (fun _ h => List.mem_cons_of_mem _ (List.mem_append_right _ h)) (hts _ (List.mem_of_getElem? (i := 4) rfl)) w dX7_port_77 ?_
            refine lv_iload_n hx hb dX7_port_80 rfl (lv_at hl 1 rfl) ?_
            refine ia_19 C w (v_side (side_of h4)) (v := (mu 19 x1.toNatClampNeg)) rfl dX7_port_81 ?_
            exact retI C w dX7_port_82
          · rw [if_neg h10_3]
            by_cases h10_4 : x2 = (4 : Int32)
            · rw [if_pos h10_4]
              refine lv_tableIn (off := 73) (tgt := 83) hx hb dX7_port_10 (by rw [h10_4]; decide) (by rw [h10_4]; decide) (by rw [h10_4]; decide) (by decide) ?_
              refine lv_aload_n hx hb dX7_port_83 rfl (lv_at hl 0 rfl) ?_
              refine gt_12_15 C (fun _ h => List.mem_cons_of_mem _ (List.mem_append_right _ h)) (hts _ (List.mem_of_getElem? (i := 5) rfl)) w dX7_port_84 ?_
              refine lv_iload_n hx hb dX7_port_87 rfl (lv_at hl 1 rfl) ?_
              refine ia_20 C w (v_side (side_of h4)) (v := (mu 20 x1.toNatClampNeg)) rfl dX7_port_88 ?_
              exact retI C w dX7_port_89
            · rw [if_neg h10_4]
              by_cases h10_5 : x2 = (5 : Int32)
              · rw [if_pos h10_5]
                refine lv_tableIn (off := 80) (tgt := 90) hx hb dX7_port_10 (by rw [h10_5]; decide) (by rw [h10_5]; decide) (by rw [h10_5]; decide) (by decide) ?_
                refine lv_aload_n hx hb dX7_port_90 rfl (lv_at hl 0 rfl) ?_
                refine gt_12_13 C (fun _ h => List.mem_cons_of_mem _ (List.mem_append_right _ h)) (hts _ (List.mem_of_getElem? (i := 6) rfl)) w dX7_port_91 ?_
                refine lv_iload_n hx hb dX7_port_94 rfl (lv_at hl 1 rfl) ?_
                refine ia_18 C w (v_side (side_of h4)) (v := (mu 18 x1.toNatClampNeg)) rfl dX7_port_95 ?_
                exact retI C w dX7_port_96
              · rw [if_neg h10_5]
                refine lv_tableOut (tgt := 97) hx hb dX7_port_10 (by have := lv_neT h10_0 (a := 0) rfl; have := lv_neT h10_1 (a := 1) rfl; have := lv_neT h10_2 (a := 2) rfl; have := lv_neT h10_3 (a := 3) rfl; have := lv_neT h10_4 (a := 4) rfl; have := lv_neT h10_5 (a := 5) rfl; omega) (by decide) ?_
                refine lv_iconst (v := (-1 : Int32)) hx hb dX7_port_97 (by decide) ?_
                exact retI C w dX7_port_98
  · rw [if_pos h4]
    refine lv_iconst (v := (-1 : Int32)) hx hb dX7_port_7 (by decide) ?_
    exact retI C w dX7_port_8
set_option maxHeartbeats 4000000 in
set_option maxRecDepth 100000 in
theorem c_Md_port (l : Launch) (A : Nat → Prop) (D : va_G) (cA : Nat → ClassId) (tb : Nat) (ad : Nat → Nat) (mu nu : Mu) (x1 : Int32) (x2 : Int32) : Met l yX7_port wsX7_port ({ frames := 1, cells := 0, slots := 0, locals := 20 }) (va_Pc [.ref (ad 12), .int x1, .int x2] (Pw A D cA tb ad nu mu)) (va_Qi (fun (r : Int32) (u : Mu × Mu) => r = F_Md_port x1 x2 mu ∧ u = (nu, mu)) (Bw A D cA ad) A) 0 0 A := by
  refine Met.ofW (cc := cX7_port) (maxL := 3) (ret := (some .int)) (by decide) rfl ?_
  intro p e s m args below meth c s₁ B hml hv
  obtain ⟨rfl, w0⟩ := hv
  have C : Cx cX7_port 3 (some .int) wsX7_port RX7 A D cA tb p s m _ meth c := ⟨B.exec, B.bytes, B.returns, hml, findClass_of_methodNamed B.named, atoms_spec (ws := wsX7_port) B.pre, B.notSynchronized, w0.2.1, w0.2.2.2.1, w0.2.2.2.2⟩
  have hl := lv_entry ([.ref (ad 12), .int x1, .int x2]) (n := 3) (Nat.le_of_ble_eq_true rfl)
  rw [lg_entry_eq]
  exact k_Md_port C w0.wd hl
def F_Md_serial (x1 : Int32) (mu : Mu) : Int32 := (if x1 = (0 : Int32) then (F_Md_serialStatus mu) else (if x1 = (1 : Int32) then (mu 12 17) else (if x1 = (2 : Int32) then (mu 12 24) else (if x1 = (3 : Int32) then (mu 12 21) else (if x1 = (4 : Int32) then (mu 12 22) else (-1 : Int32))))))
set_option maxHeartbeats 4000000 in
set_option maxRecDepth 100000 in
theorem k_Md_serial (C : Cx cX7_serial 2 (some .int) wsX7_serial RX7 A D cA tb p s m args meth c) {mu nu : Mu} {x1 : Int32} {H : Heap} {locs : List Loc} {ls : Array Slot} (w : Wd A D cA ad s nu mu H locs) (hl : lv_has ls 2 [(0, .ref (ad 12)), (1, .int x1)]) : W p l e { frames := 2, cells := 0, slots := 0, locals := 40 } s m args below meth c H locs 0 0 (QI A D cA ad below args s (F_Md_serial x1 mu) nu mu) (F0 m 0 ls []) := by
  have hx := C.1
  have hb := C.2.1
  have hts := C.2.2.2.2.2.1
  have hown := C.2.2.2.2.1
  unfold F_Md_serial
  refine lv_iload_n hx hb dX7_serial_0 rfl (lv_at hl 1 rfl) ?_
  refine lv_if_ne (tgt := 11) hx hb dX7_serial_1 (by decide) (fun h1 => ?_) (fun h1 => ?_)
  · rw [if_neg h1]
    refine lv_iload_n hx hb dX7_serial_11 rfl (lv_at hl 1 rfl) ?_
    refine lv_iconst (v := 1) hx hb dX7_serial_12 (by decide) ?_
    refine lv_icmp_ne (tgt := 23) hx hb dX7_serial_13 (by decide) (fun h13 => ?_) (fun h13 => ?_)
    · rw [if_neg h13]
      refine lv_iload_n hx hb dX7_serial_23 rfl (lv_at hl 1 rfl) ?_
      refine lv_iconst (v := 2) hx hb dX7_serial_24 (by decide) ?_
      refine lv_icmp_ne (tgt := 35) hx hb dX7_serial_25 (by decide) (fun h25 => ?_) (fun h25 => ?_)
      · rw [if_neg h25]
        refine lv_iload_n hx hb dX7_serial_35 rfl (lv_at hl 1 rfl) ?_
        refine lv_iconst (v := 3) hx hb dX7_serial_36 (by decide) ?_
        refine lv_icmp_ne (tgt := 47) hx hb dX7_serial_37 (by decide) (fun h37 => ?_) (fun h37 => ?_)
        · rw [if_neg h37]
          refine lv_iload_n hx hb dX7_serial_47 rfl (lv_at hl 1 rfl) ?_
          refine lv_iconst (v := 4) hx hb dX7_serial_48 (by decide) ?_
          refine lv_icmp_ne (tgt := 59) hx hb dX7_serial_49 (by decide) (fun h49 => ?_) (fun h49 => ?_)
          · rw [if_neg h49]
            refine lv_iconst (v := (-1 : Int32)) hx hb dX7_serial_59 (by decide) ?_
            exact retI C w dX7_serial_60
          · rw [if_pos h49]
            refine lv_aload_n hx hb dX7_serial_52 rfl (lv_at hl 0 rfl) ?_
            refine gt_12_22 C (fun _ h => List.mem_cons_of_mem _ (List.mem_append_right _ h)) (hts _ (List.mem_of_getElem? (i := 4) rfl)) w (v := (mu 12 22)) rfl dX7_serial_53 ?_
            refine lv_goto (tgt := 60) hx hb dX7_serial_56 (by decide) ?_
            exact retI C w dX7_serial_60
        · rw [if_pos h37]
          refine lv_aload_n hx hb dX7_serial_40 rfl (lv_at hl 0 rfl) ?_
          refine gt_12_21 C (fun _ h => List.mem_cons_of_mem _ (List.mem_append_right _ h)) (hts _ (List.mem_of_getElem? (i := 3) rfl)) w (v := (mu 12 21)) rfl dX7_serial_41 ?_
          refine lv_goto (tgt := 60) hx hb dX7_serial_44 (by decide) ?_
          exact retI C w dX7_serial_60
      · rw [if_pos h25]
        refine lv_aload_n hx hb dX7_serial_28 rfl (lv_at hl 0 rfl) ?_
        refine gt_12_24 C (fun _ h => List.mem_cons_of_mem _ (List.mem_append_right _ h)) (hts _ (List.mem_of_getElem? (i := 2) rfl)) w (v := (mu 12 24)) rfl dX7_serial_29 ?_
        refine lv_goto (tgt := 60) hx hb dX7_serial_32 (by decide) ?_
        exact retI C w dX7_serial_60
    · rw [if_pos h13]
      refine lv_aload_n hx hb dX7_serial_16 rfl (lv_at hl 0 rfl) ?_
      refine gt_12_17 C (fun _ h => List.mem_cons_of_mem _ (List.mem_append_right _ h)) (hts _ (List.mem_of_getElem? (i := 1) rfl)) w (v := (mu 12 17)) rfl dX7_serial_17 ?_
      refine lv_goto (tgt := 60) hx hb dX7_serial_20 (by decide) ?_
      exact retI C w dX7_serial_60
  · rw [if_pos h1]
    refine lv_aload_n hx hb dX7_serial_4 rfl (lv_at hl 0 rfl) ?_
    refine kcI (k := 12) (ci := 7) (As := []) (rest := []) C w rfl rfl (c_Md_serialStatus l A D cA tb ad mu nu) (cwV 0 hts gX7_serial_X7_serialStatus rfl rfl rfl (by decide +kernel) ⟨Nat.le_of_ble_eq_true rfl, Nat.le_of_ble_eq_true rfl⟩) rfl rfl hl.1 (Nat.le_of_ble_eq_true rfl) dX7_serial_5 (fun H locs w => ?_)
    refine lv_goto (tgt := 60) hx hb dX7_serial_8 (by decide) ?_
    exact retI C w dX7_serial_60
set_option maxHeartbeats 4000000 in
set_option maxRecDepth 100000 in
theorem c_Md_serial (l : Launch) (A : Nat → Prop) (D : va_G) (cA : Nat → ClassId) (tb : Nat) (ad : Nat → Nat) (mu nu : Mu) (x1 : Int32) : Met l yX7_serial wsX7_serial ({ frames := 2, cells := 0, slots := 0, locals := 40 }) (va_Pc [.ref (ad 12), .int x1] (Pw A D cA tb ad nu mu)) (va_Qi (fun (r : Int32) (u : Mu × Mu) => r = F_Md_serial x1 mu ∧ u = (nu, mu)) (Bw A D cA ad) A) 0 0 A := by
  refine Met.ofW (cc := cX7_serial) (maxL := 2) (ret := (some .int)) (by decide) rfl ?_
  intro p e s m args below meth c s₁ B hml hv
  obtain ⟨rfl, w0⟩ := hv
  have C : Cx cX7_serial 2 (some .int) wsX7_serial RX7 A D cA tb p s m _ meth c := ⟨B.exec, B.bytes, B.returns, hml, findClass_of_methodNamed B.named, atoms_spec (ws := wsX7_serial) B.pre, B.notSynchronized, w0.2.1, w0.2.2.2.1, w0.2.2.2.2⟩
  have hl := lv_entry ([.ref (ad 12), .int x1]) (n := 2) (Nat.le_of_ble_eq_true rfl)
  rw [lg_entry_eq]
  exact k_Md_serial C w0.wd hl
end
