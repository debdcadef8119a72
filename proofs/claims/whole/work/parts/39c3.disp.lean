theorem op_128 {mu nu : Mu} (h : Rel mu nu) : OPS 128 mu nu := by
  unfold OPS
  rw [act_8 (by decide) (by decide) (by decide)]
  rw [md_i8 (by decide) (by decide)]
  show Rel (F_Pr_doWithOperand_12 (nI 128) (F_Pr_operandAddress (nI 128) (ps mu 9 7 ((mu 9 7 + 1) &&& 65535))).1 1 (F_Pr_operandAddress (nI 128) (ps mu 9 7 ((mu 9 7 + 1) &&& 65535))).2) (F_Md_instruction_100 (nu 12 6) (F_Md_worksOnTwo_23 0 0 0 (ps nu 12 6 ((nu 12 6 + 1) &&& 65535))).1 (F_Md_worksOnTwo_23 0 0 0 (ps nu 12 6 ((nu 12 6 + 1) &&& 65535))).2)
  exact fin_l (g_two' y10 (op := nI 128) (d := 0) (w := 0) (z := 0) (rel_p1 h) (by decide +kernel) (by unfold isTw; decide +kernel) (Or.inr ⟨by decide +kernel, rfl, fun m => (isz_rows 128 (by decide) : F_Pr_immediateSize (nI 128 &&& 15) m = 1)⟩) (Or.inl rfl))
theorem op_129 {mu nu : Mu} (h : Rel mu nu) : OPS 129 mu nu := by
  unfold OPS
  rw [act_8 (by decide) (by decide) (by decide)]
  rw [md_i8 (by decide) (by decide)]
  show Rel (F_Pr_doWithOperand_12 (nI 129) (F_Pr_operandAddress (nI 129) (ps mu 9 7 ((mu 9 7 + 1) &&& 65535))).1 1 (F_Pr_operandAddress (nI 129) (ps mu 9 7 ((mu 9 7 + 1) &&& 65535))).2) (F_Md_instruction_100 (nu 12 6) (F_Md_worksOnTwo_23 1 0 0 (ps nu 12 6 ((nu 12 6 + 1) &&& 65535))).1 (F_Md_worksOnTwo_23 1 0 0 (ps nu 12 6 ((nu 12 6 + 1) &&& 65535))).2)
  exact fin_l (g_two' y10 (op := nI 129) (d := 1) (w := 0) (z := 0) (rel_p1 h) (by decide +kernel) (by unfold isTw; decide +kernel) (Or.inr ⟨by decide +kernel, rfl, fun m => (isz_rows 129 (by decide) : F_Pr_immediateSize (nI 129 &&& 15) m = 1)⟩) (Or.inl rfl))
theorem op_130 {mu nu : Mu} (h : Rel mu nu) : OPS 130 mu nu := by
  unfold OPS
  rw [act_8 (by decide) (by decide) (by decide)]
  rw [md_i8 (by decide) (by decide)]
  show Rel (F_Pr_doWithOperand_12 (nI 130) (F_Pr_operandAddress (nI 130) (ps mu 9 7 ((mu 9 7 + 1) &&& 65535))).1 1 (F_Pr_operandAddress (nI 130) (ps mu 9 7 ((mu 9 7 + 1) &&& 65535))).2) (F_Md_instruction_100 (nu 12 6) (F_Md_worksOnTwo_23 2 0 0 (ps nu 12 6 ((nu 12 6 + 1) &&& 65535))).1 (F_Md_worksOnTwo_23 2 0 0 (ps nu 12 6 ((nu 12 6 + 1) &&& 65535))).2)
  exact fin_l (g_two' y10 (op := nI 130) (d := 2) (w := 0) (z := 0) (rel_p1 h) (by decide +kernel) (by unfold isTw; decide +kernel) (Or.inr ⟨by decide +kernel, rfl, fun m => (isz_rows 130 (by decide) : F_Pr_immediateSize (nI 130 &&& 15) m = 1)⟩) (Or.inl rfl))
theorem op_131 {mu nu : Mu} (h : Rel mu nu) : OPS 131 mu nu := by
  unfold OPS
  rw [act_il (by decide) (by decide)]
  rw [md_i8 (by decide) (by decide)]
  exact fin_i (v := (nu 12 6 + 1) &&& 65535) h (by simp +decide only [F_Md_worksOnTwo_23, F_Md_withWords, F_Md_withWords_22, F_Md_withWords_48, F_Md_withWords_115, ↓reduceIte])
theorem op_132 {mu nu : Mu} (h : Rel mu nu) : OPS 132 mu nu := by
  unfold OPS
  rw [act_8 (by decide) (by decide) (by decide)]
  rw [md_i8 (by decide) (by decide)]
  show Rel (F_Pr_doWithOperand_12 (nI 132) (F_Pr_operandAddress (nI 132) (ps mu 9 7 ((mu 9 7 + 1) &&& 65535))).1 1 (F_Pr_operandAddress (nI 132) (ps mu 9 7 ((mu 9 7 + 1) &&& 65535))).2) (F_Md_instruction_100 (nu 12 6) (F_Md_worksOnTwo_23 4 0 0 (ps nu 12 6 ((nu 12 6 + 1) &&& 65535))).1 (F_Md_worksOnTwo_23 4 0 0 (ps nu 12 6 ((nu 12 6 + 1) &&& 65535))).2)
  exact fin_l (g_two' y10 (op := nI 132) (d := 4) (w := 0) (z := 0) (rel_p1 h) (by decide +kernel) (by unfold isTw; decide +kernel) (Or.inr ⟨by decide +kernel, rfl, fun m => (isz_rows 132 (by decide) : F_Pr_immediateSize (nI 132 &&& 15) m = 1)⟩) (Or.inl rfl))
theorem op_133 {mu nu : Mu} (h : Rel mu nu) : OPS 133 mu nu := by
  unfold OPS
  rw [act_8 (by decide) (by decide) (by decide)]
  rw [md_i8 (by decide) (by decide)]
  show Rel (F_Pr_doWithOperand_12 (nI 133) (F_Pr_operandAddress (nI 133) (ps mu 9 7 ((mu 9 7 + 1) &&& 65535))).1 1 (F_Pr_operandAddress (nI 133) (ps mu 9 7 ((mu 9 7 + 1) &&& 65535))).2) (F_Md_instruction_100 (nu 12 6) (F_Md_worksOnTwo_23 5 0 0 (ps nu 12 6 ((nu 12 6 + 1) &&& 65535))).1 (F_Md_worksOnTwo_23 5 0 0 (ps nu 12 6 ((nu 12 6 + 1) &&& 65535))).2)
  exact fin_l (g_two' y10 (op := nI 133) (d := 5) (w := 0) (z := 0) (rel_p1 h) (by decide +kernel) (by unfold isTw; decide +kernel) (Or.inr ⟨by decide +kernel, rfl, fun m => (isz_rows 133 (by decide) : F_Pr_immediateSize (nI 133 &&& 15) m = 1)⟩) (Or.inl rfl))
theorem op_134 {mu nu : Mu} (h : Rel mu nu) : OPS 134 mu nu := by
  unfold OPS
  rw [act_8 (by decide) (by decide) (by decide)]
  rw [md_i8 (by decide) (by decide)]
  show Rel (F_Pr_doWithOperand_12 (nI 134) (F_Pr_operandAddress (nI 134) (ps mu 9 7 ((mu 9 7 + 1) &&& 65535))).1 1 (F_Pr_operandAddress (nI 134) (ps mu 9 7 ((mu 9 7 + 1) &&& 65535))).2) (F_Md_instruction_100 (nu 12 6) (F_Md_worksOnTwo_23 6 0 0 (ps nu 12 6 ((nu 12 6 + 1) &&& 65535))).1 (F_Md_worksOnTwo_23 6 0 0 (ps nu 12 6 ((nu 12 6 + 1) &&& 65535))).2)
  exact fin_l (g_two' y10 (op := nI 134) (d := 6) (w := 0) (z := 0) (rel_p1 h) (by decide +kernel) (by unfold isTw; decide +kernel) (Or.inr ⟨by decide +kernel, rfl, fun m => (isz_rows 134 (by decide) : F_Pr_immediateSize (nI 134 &&& 15) m = 1)⟩) (Or.inl rfl))
theorem op_135 {mu nu : Mu} (h : Rel mu nu) : OPS 135 mu nu := by
  unfold OPS
  rw [act_il (by decide) (by decide)]
  rw [md_i8 (by decide) (by decide)]
  exact fin_i (v := (nu 12 6 + 1) &&& 65535) h (by simp +decide only [F_Md_worksOnTwo_23, F_Md_withWords, F_Md_withWords_22, F_Md_withWords_48, F_Md_withWords_115, ↓reduceIte])
theorem op_136 {mu nu : Mu} (h : Rel mu nu) : OPS 136 mu nu := by
  unfold OPS
  rw [act_8 (by decide) (by decide) (by decide)]
  rw [md_i8 (by decide) (by decide)]
  show Rel (F_Pr_doWithOperand_12 (nI 136) (F_Pr_operandAddress (nI 136) (ps mu 9 7 ((mu 9 7 + 1) &&& 65535))).1 1 (F_Pr_operandAddress (nI 136) (ps mu 9 7 ((mu 9 7 + 1) &&& 65535))).2) (F_Md_instruction_100 (nu 12 6) (F_Md_worksOnTwo_23 8 0 0 (ps nu 12 6 ((nu 12 6 + 1) &&& 65535))).1 (F_Md_worksOnTwo_23 8 0 0 (ps nu 12 6 ((nu 12 6 + 1) &&& 65535))).2)
  exact fin_l (g_two' y10 (op := nI 136) (d := 8) (w := 0) (z := 0) (rel_p1 h) (by decide +kernel) (by unfold isTw; decide +kernel) (Or.inr ⟨by decide +kernel, rfl, fun m => (isz_rows 136 (by decide) : F_Pr_immediateSize (nI 136 &&& 15) m = 1)⟩) (Or.inl rfl))
theorem op_137 {mu nu : Mu} (h : Rel mu nu) : OPS 137 mu nu := by
  unfold OPS
  rw [act_8 (by decide) (by decide) (by decide)]
  rw [md_i8 (by decide) (by decide)]
  show Rel (F_Pr_doWithOperand_12 (nI 137) (F_Pr_operandAddress (nI 137) (ps mu 9 7 ((mu 9 7 + 1) &&& 65535))).1 1 (F_Pr_operandAddress (nI 137) (ps mu 9 7 ((mu 9 7 + 1) &&& 65535))).2) (F_Md_instruction_100 (nu 12 6) (F_Md_worksOnTwo_23 9 0 0 (ps nu 12 6 ((nu 12 6 + 1) &&& 65535))).1 (F_Md_worksOnTwo_23 9 0 0 (ps nu 12 6 ((nu 12 6 + 1) &&& 65535))).2)
  exact fin_l (g_two' y10 (op := nI 137) (d := 9) (w := 0) (z := 0) (rel_p1 h) (by decide +kernel) (by unfold isTw; decide +kernel) (Or.inr ⟨by decide +kernel, rfl, fun m => (isz_rows 137 (by decide) : F_Pr_immediateSize (nI 137 &&& 15) m = 1)⟩) (Or.inl rfl))
theorem op_138 {mu nu : Mu} (h : Rel mu nu) : OPS 138 mu nu := by
  unfold OPS
  rw [act_8 (by decide) (by decide) (by decide)]
  rw [md_i8 (by decide) (by decide)]
  show Rel (F_Pr_doWithOperand_12 (nI 138) (F_Pr_operandAddress (nI 138) (ps mu 9 7 ((mu 9 7 + 1) &&& 65535))).1 1 (F_Pr_operandAddress (nI 138) (ps mu 9 7 ((mu 9 7 + 1) &&& 65535))).2) (F_Md_instruction_100 (nu 12 6) (F_Md_worksOnTwo_23 10 0 0 (ps nu 12 6 ((nu 12 6 + 1) &&& 65535))).1 (F_Md_worksOnTwo_23 10 0 0 (ps nu 12 6 ((nu 12 6 + 1) &&& 65535))).2)
  exact fin_l (g_two' y10 (op := nI 138) (d := 10) (w := 0) (z := 0) (rel_p1 h) (by decide +kernel) (by unfold isTw; decide +kernel) (Or.inr ⟨by decide +kernel, rfl, fun m => (isz_rows 138 (by decide) : F_Pr_immediateSize (nI 138 &&& 15) m = 1)⟩) (Or.inl rfl))
theorem op_139 {mu nu : Mu} (h : Rel mu nu) : OPS 139 mu nu := by
  unfold OPS
  rw [act_8 (by decide) (by decide) (by decide)]
  rw [md_i8 (by decide) (by decide)]
  show Rel (F_Pr_doWithOperand_12 (nI 139) (F_Pr_operandAddress (nI 139) (ps mu 9 7 ((mu 9 7 + 1) &&& 65535))).1 1 (F_Pr_operandAddress (nI 139) (ps mu 9 7 ((mu 9 7 + 1) &&& 65535))).2) (F_Md_instruction_100 (nu 12 6) (F_Md_worksOnTwo_23 11 0 0 (ps nu 12 6 ((nu 12 6 + 1) &&& 65535))).1 (F_Md_worksOnTwo_23 11 0 0 (ps nu 12 6 ((nu 12 6 + 1) &&& 65535))).2)
  exact fin_l (g_two' y10 (op := nI 139) (d := 11) (w := 0) (z := 0) (rel_p1 h) (by decide +kernel) (by unfold isTw; decide +kernel) (Or.inr ⟨by decide +kernel, rfl, fun m => (isz_rows 139 (by decide) : F_Pr_immediateSize (nI 139 &&& 15) m = 1)⟩) (Or.inl rfl))
theorem op_140 {mu nu : Mu} (h : Rel mu nu) : OPS 140 mu nu := by
  unfold OPS
  rw [act_8 (by decide) (by decide) (by decide)]
  rw [md_i8 (by decide) (by decide)]
  show Rel (F_Pr_doWithOperand_12 (nI 140) (F_Pr_operandAddress (nI 140) (ps mu 9 7 ((mu 9 7 + 1) &&& 65535))).1 1 (F_Pr_operandAddress (nI 140) (ps mu 9 7 ((mu 9 7 + 1) &&& 65535))).2) (F_Md_instruction_100 (nu 12 6) (F_Md_worksOnTwo_23 12 0 0 (ps nu 12 6 ((nu 12 6 + 1) &&& 65535))).1 (F_Md_worksOnTwo_23 12 0 0 (ps nu 12 6 ((nu 12 6 + 1) &&& 65535))).2)
  exact fin_l (g_cpx (op := nI 140) (w := 0) (rel_p1 h) (by decide +kernel) (Or.inr ⟨by decide +kernel, rfl, fun m => (isz_rows 140 (by decide) : F_Pr_immediateSize (nI 140 &&& 15) m = 2)⟩))
theorem op_141 {mu nu : Mu} (h : Rel mu nu) : OPS 141 mu nu := by
  unfold OPS
  rw [act_8 (by decide) (by decide) (by decide)]
  rw [md_i8 (by decide) (by decide)]
  show Rel (F_Pr_doWithOperand_12 (nI 141) (F_Pr_operandAddress (nI 141) (ps mu 9 7 ((mu 9 7 + 1) &&& 65535))).1 1 (F_Pr_operandAddress (nI 141) (ps mu 9 7 ((mu 9 7 + 1) &&& 65535))).2) (F_Md_instruction_100 (nu 12 6) (F_Md_worksOnTwo_23 13 0 0 (ps nu 12 6 ((nu 12 6 + 1) &&& 65535))).1 (F_Md_worksOnTwo_23 13 0 0 (ps nu 12 6 ((nu 12 6 + 1) &&& 65535))).2)
  exact fin_l (g_bsr (rel_p1 h))
theorem op_142 {mu nu : Mu} (h : Rel mu nu) : OPS 142 mu nu := by
  unfold OPS
  rw [act_8 (by decide) (by decide) (by decide)]
  rw [md_i8 (by decide) (by decide)]
  show Rel (F_Pr_doWithOperand_12 (nI 142) (F_Pr_operandAddress (nI 142) (ps mu 9 7 ((mu 9 7 + 1) &&& 65535))).1 1 (F_Pr_operandAddress (nI 142) (ps mu 9 7 ((mu 9 7 + 1) &&& 65535))).2) (F_Md_instruction_100 (nu 12 6) (F_Md_worksOnTwo_23 14 0 0 (ps nu 12 6 ((nu 12 6 + 1) &&& 65535))).1 (F_Md_worksOnTwo_23 14 0 0 (ps nu 12 6 ((nu 12 6 + 1) &&& 65535))).2)
  exact fin_l (g_ldw' y10 (op := nI 142) (w := 0) (z := 0) (rel_p1 h) (by decide +kernel) (Or.inr ⟨by decide +kernel, rfl, fun m => (isz_rows 142 (by decide) : F_Pr_immediateSize (nI 142 &&& 15) m = 2)⟩) (Or.inl rfl))
theorem op_143 {mu nu : Mu} (h : Rel mu nu) : OPS 143 mu nu := by
  unfold OPS
  rw [act_il (by decide) (by decide)]
  rw [md_i8 (by decide) (by decide)]
  exact fin_i (v := (nu 12 6 + 1) &&& 65535) h (by simp +decide only [F_Md_worksOnTwo_23, F_Md_withWords, F_Md_withWords_22, F_Md_withWords_48, F_Md_withWords_115, ↓reduceIte])
theorem op_144 {mu nu : Mu} (h : Rel mu nu) : OPS 144 mu nu := by
  unfold OPS
  rw [act_9 (by decide) (by decide) (by decide)]
  rw [md_i8 (by decide) (by decide)]
  show Rel (F_Pr_doWithOperand_12 (nI 144) (F_Pr_operandAddress (nI 144) (ps mu 9 7 ((mu 9 7 + 1) &&& 65535))).1 1 (F_Pr_operandAddress (nI 144) (ps mu 9 7 ((mu 9 7 + 1) &&& 65535))).2) (F_Md_instruction_100 (nu 12 6) (F_Md_worksOnTwo_23 0 1 0 (ps nu 12 6 ((nu 12 6 + 1) &&& 65535))).1 (F_Md_worksOnTwo_23 0 1 0 (ps nu 12 6 ((nu 12 6 + 1) &&& 65535))).2)
  exact fin_l (g_two' y10 (op := nI 144) (d := 0) (w := 1) (z := 0) (rel_p1 h) (by decide +kernel) (by unfold isTw; decide +kernel) (Or.inl (by unfold way; decide +kernel)) (Or.inl rfl))
theorem op_145 {mu nu : Mu} (h : Rel mu nu) : OPS 145 mu nu := by
  unfold OPS
  rw [act_9 (by decide) (by decide) (by decide)]
  rw [md_i8 (by decide) (by decide)]
  show Rel (F_Pr_doWithOperand_12 (nI 145) (F_Pr_operandAddress (nI 145) (ps mu 9 7 ((mu 9 7 + 1) &&& 65535))).1 1 (F_Pr_operandAddress (nI 145) (ps mu 9 7 ((mu 9 7 + 1) &&& 65535))).2) (F_Md_instruction_100 (nu 12 6) (F_Md_worksOnTwo_23 1 1 0 (ps nu 12 6 ((nu 12 6 + 1) &&& 65535))).1 (F_Md_worksOnTwo_23 1 1 0 (ps nu 12 6 ((nu 12 6 + 1) &&& 65535))).2)
  exact fin_l (g_two' y10 (op := nI 145) (d := 1) (w := 1) (z := 0) (rel_p1 h) (by decide +kernel) (by unfold isTw; decide +kernel) (Or.inl (by unfold way; decide +kernel)) (Or.inl rfl))
theorem op_146 {mu nu : Mu} (h : Rel mu nu) : OPS 146 mu nu := by
  unfold OPS
  rw [act_9 (by decide) (by decide) (by decide)]
  rw [md_i8 (by decide) (by decide)]
  show Rel (F_Pr_doWithOperand_12 (nI 146) (F_Pr_operandAddress (nI 146) (ps mu 9 7 ((mu 9 7 + 1) &&& 65535))).1 1 (F_Pr_operandAddress (nI 146) (ps mu 9 7 ((mu 9 7 + 1) &&& 65535))).2) (F_Md_instruction_100 (nu 12 6) (F_Md_worksOnTwo_23 2 1 0 (ps nu 12 6 ((nu 12 6 + 1) &&& 65535))).1 (F_Md_worksOnTwo_23 2 1 0 (ps nu 12 6 ((nu 12 6 + 1) &&& 65535))).2)
  exact fin_l (g_two' y10 (op := nI 146) (d := 2) (w := 1) (z := 0) (rel_p1 h) (by decide +kernel) (by unfold isTw; decide +kernel) (Or.inl (by unfold way; decide +kernel)) (Or.inl rfl))
theorem op_147 {mu nu : Mu} (h : Rel mu nu) : OPS 147 mu nu := by
  unfold OPS
  rw [act_il (by decide) (by decide)]
  rw [md_i8 (by decide) (by decide)]
  exact fin_i (v := (nu 12 6 + 1) &&& 65535) h (by simp +decide only [F_Md_worksOnTwo_23, F_Md_withWords, F_Md_withWords_22, F_Md_withWords_48, F_Md_withWords_115, ↓reduceIte])
theorem op_148 {mu nu : Mu} (h : Rel mu nu) : OPS 148 mu nu := by
  unfold OPS
  rw [act_9 (by decide) (by decide) (by decide)]
  rw [md_i8 (by decide) (by decide)]
  show Rel (F_Pr_doWithOperand_12 (nI 148) (F_Pr_operandAddress (nI 148) (ps mu 9 7 ((mu 9 7 + 1) &&& 65535))).1 1 (F_Pr_operandAddress (nI 148) (ps mu 9 7 ((mu 9 7 + 1) &&& 65535))).2) (F_Md_instruction_100 (nu 12 6) (F_Md_worksOnTwo_23 4 1 0 (ps nu 12 6 ((nu 12 6 + 1) &&& 65535))).1 (F_Md_worksOnTwo_23 4 1 0 (ps nu 12 6 ((nu 12 6 + 1) &&& 65535))).2)
  exact fin_l (g_two' y10 (op := nI 148) (d := 4) (w := 1) (z := 0) (rel_p1 h) (by decide +kernel) (by unfold isTw; decide +kernel) (Or.inl (by unfold way; decide +kernel)) (Or.inl rfl))
theorem op_149 {mu nu : Mu} (h : Rel mu nu) : OPS 149 mu nu := by
  unfold OPS
  rw [act_9 (by decide) (by decide) (by decide)]
  rw [md_i8 (by decide) (by decide)]
  show Rel (F_Pr_doWithOperand_12 (nI 149) (F_Pr_operandAddress (nI 149) (ps mu 9 7 ((mu 9 7 + 1) &&& 65535))).1 1 (F_Pr_operandAddress (nI 149) (ps mu 9 7 ((mu 9 7 + 1) &&& 65535))).2) (F_Md_instruction_100 (nu 12 6) (F_Md_worksOnTwo_23 5 1 0 (ps nu 12 6 ((nu 12 6 + 1) &&& 65535))).1 (F_Md_worksOnTwo_23 5 1 0 (ps nu 12 6 ((nu 12 6 + 1) &&& 65535))).2)
  exact fin_l (g_two' y10 (op := nI 149) (d := 5) (w := 1) (z := 0) (rel_p1 h) (by decide +kernel) (by unfold isTw; decide +kernel) (Or.inl (by unfold way; decide +kernel)) (Or.inl rfl))
theorem op_150 {mu nu : Mu} (h : Rel mu nu) : OPS 150 mu nu := by
  unfold OPS
  rw [act_9 (by decide) (by decide) (by decide)]
  rw [md_i8 (by decide) (by decide)]
  show Rel (F_Pr_doWithOperand_12 (nI 150) (F_Pr_operandAddress (nI 150) (ps mu 9 7 ((mu 9 7 + 1) &&& 65535))).1 1 (F_Pr_operandAddress (nI 150) (ps mu 9 7 ((mu 9 7 + 1) &&& 65535))).2) (F_Md_instruction_100 (nu 12 6) (F_Md_worksOnTwo_23 6 1 0 (ps nu 12 6 ((nu 12 6 + 1) &&& 65535))).1 (F_Md_worksOnTwo_23 6 1 0 (ps nu 12 6 ((nu 12 6 + 1) &&& 65535))).2)
  exact fin_l (g_two' y10 (op := nI 150) (d := 6) (w := 1) (z := 0) (rel_p1 h) (by decide +kernel) (by unfold isTw; decide +kernel) (Or.inl (by unfold way; decide +kernel)) (Or.inl rfl))
theorem op_151 {mu nu : Mu} (h : Rel mu nu) : OPS 151 mu nu := by
  unfold OPS
  rw [act_9 (by decide) (by decide) (by decide)]
  rw [md_i8 (by decide) (by decide)]
  show Rel (F_Pr_doWithOperand_12 (nI 151) (F_Pr_operandAddress (nI 151) (ps mu 9 7 ((mu 9 7 + 1) &&& 65535))).1 1 (F_Pr_operandAddress (nI 151) (ps mu 9 7 ((mu 9 7 + 1) &&& 65535))).2) (F_Md_instruction_100 (nu 12 6) (F_Md_worksOnTwo_23 7 1 0 (ps nu 12 6 ((nu 12 6 + 1) &&& 65535))).1 (F_Md_worksOnTwo_23 7 1 0 (ps nu 12 6 ((nu 12 6 + 1) &&& 65535))).2)
  exact fin_l (g_sta' y10 (op := nI 151) (w := 1) (z := 0) (rel_p1 h) (by decide +kernel) (by unfold way; decide +kernel) (Or.inl rfl))
theorem op_152 {mu nu : Mu} (h : Rel mu nu) : OPS 152 mu nu := by
  unfold OPS
  rw [act_9 (by decide) (by decide) (by decide)]
  rw [md_i8 (by decide) (by decide)]
  show Rel (F_Pr_doWithOperand_12 (nI 152) (F_Pr_operandAddress (nI 152) (ps mu 9 7 ((mu 9 7 + 1) &&& 65535))).1 1 (F_Pr_operandAddress (nI 152) (ps mu 9 7 ((mu 9 7 + 1) &&& 65535))).2) (F_Md_instruction_100 (nu 12 6) (F_Md_worksOnTwo_23 8 1 0 (ps nu 12 6 ((nu 12 6 + 1) &&& 65535))).1 (F_Md_worksOnTwo_23 8 1 0 (ps nu 12 6 ((nu 12 6 + 1) &&& 65535))).2)
  exact fin_l (g_two' y10 (op := nI 152) (d := 8) (w := 1) (z := 0) (rel_p1 h) (by decide +kernel) (by unfold isTw; decide +kernel) (Or.inl (by unfold way; decide +kernel)) (Or.inl rfl))
theorem op_153 {mu nu : Mu} (h : Rel mu nu) : OPS 153 mu nu := by
  unfold OPS
  rw [act_9 (by decide) (by decide) (by decide)]
  rw [md_i8 (by decide) (by decide)]
  show Rel (F_Pr_doWithOperand_12 (nI 153) (F_Pr_operandAddress (nI 153) (ps mu 9 7 ((mu 9 7 + 1) &&& 65535))).1 1 (F_Pr_operandAddress (nI 153) (ps mu 9 7 ((mu 9 7 + 1) &&& 65535))).2) (F_Md_instruction_100 (nu 12 6) (F_Md_worksOnTwo_23 9 1 0 (ps nu 12 6 ((nu 12 6 + 1) &&& 65535))).1 (F_Md_worksOnTwo_23 9 1 0 (ps nu 12 6 ((nu 12 6 + 1) &&& 65535))).2)
  exact fin_l (g_two' y10 (op := nI 153) (d := 9) (w := 1) (z := 0) (rel_p1 h) (by decide +kernel) (by unfold isTw; decide +kernel) (Or.inl (by unfold way; decide +kernel)) (Or.inl rfl))
theorem op_154 {mu nu : Mu} (h : Rel mu nu) : OPS 154 mu nu := by
  unfold OPS
  rw [act_9 (by decide) (by decide) (by decide)]
  rw [md_i8 (by decide) (by decide)]
  show Rel (F_Pr_doWithOperand_12 (nI 154) (F_Pr_operandAddress (nI 154) (ps mu 9 7 ((mu 9 7 + 1) &&& 65535))).1 1 (F_Pr_operandAddress (nI 154) (ps mu 9 7 ((mu 9 7 + 1) &&& 65535))).2) (F_Md_instruction_100 (nu 12 6) (F_Md_worksOnTwo_23 10 1 0 (ps nu 12 6 ((nu 12 6 + 1) &&& 65535))).1 (F_Md_worksOnTwo_23 10 1 0 (ps nu 12 6 ((nu 12 6 + 1) &&& 65535))).2)
  exact fin_l (g_two' y10 (op := nI 154) (d := 10) (w := 1) (z := 0) (rel_p1 h) (by decide +kernel) (by unfold isTw; decide +kernel) (Or.inl (by unfold way; decide +kernel)) (Or.inl rfl))
theorem op_155 {mu nu : Mu} (h : Rel mu nu) : OPS 155 mu nu := by
  unfold OPS
  rw [act_9 (by decide) (by decide) (by decide)]
  rw [md_i8 (by decide) (by decide)]
  show Rel (F_Pr_doWithOperand_12 (nI 155) (F_Pr_operandAddress (nI 155) (ps mu 9 7 ((mu 9 7 + 1) &&& 65535))).1 1 (F_Pr_operandAddress (nI 155) (ps mu 9 7 ((mu 9 7 + 1) &&& 65535))).2) (F_Md_instruction_100 (nu 12 6) (F_Md_worksOnTwo_23 11 1 0 (ps nu 12 6 ((nu 12 6 + 1) &&& 65535))).1 (F_Md_worksOnTwo_23 11 1 0 (ps nu 12 6 ((nu 12 6 + 1) &&& 65535))).2)
  exact fin_l (g_two' y10 (op := nI 155) (d := 11) (w := 1) (z := 0) (rel_p1 h) (by decide +kernel) (by unfold isTw; decide +kernel) (Or.inl (by unfold way; decide +kernel)) (Or.inl rfl))
theorem op_156 {mu nu : Mu} (h : Rel mu nu) : OPS 156 mu nu := by
  unfold OPS
  rw [act_9 (by decide) (by decide) (by decide)]
  rw [md_i8 (by decide) (by decide)]
  show Rel (F_Pr_doWithOperand_12 (nI 156) (F_Pr_operandAddress (nI 156) (ps mu 9 7 ((mu 9 7 + 1) &&& 65535))).1 1 (F_Pr_operandAddress (nI 156) (ps mu 9 7 ((mu 9 7 + 1) &&& 65535))).2) (F_Md_instruction_100 (nu 12 6) (F_Md_worksOnTwo_23 12 1 0 (ps nu 12 6 ((nu 12 6 + 1) &&& 65535))).1 (F_Md_worksOnTwo_23 12 1 0 (ps nu 12 6 ((nu 12 6 + 1) &&& 65535))).2)
  exact fin_l (g_cpx (op := nI 156) (w := 1) (rel_p1 h) (by decide +kernel) (Or.inl (by unfold way; decide +kernel)))
theorem op_157 {mu nu : Mu} (h : Rel mu nu) : OPS 157 mu nu := by
  unfold OPS
  rw [act_il (by decide) (by decide)]
  rw [md_i8 (by decide) (by decide)]
  exact fin_i (v := (nu 12 6 + 1) &&& 65535) h (by simp +decide only [F_Md_worksOnTwo_23, F_Md_withWords, F_Md_withWords_22, F_Md_withWords_48, F_Md_withWords_115, ↓reduceIte])
theorem op_158 {mu nu : Mu} (h : Rel mu nu) : OPS 158 mu nu := by
  unfold OPS
  rw [act_9 (by decide) (by decide) (by decide)]
  rw [md_i8 (by decide) (by decide)]
  show Rel (F_Pr_doWithOperand_12 (nI 158) (F_Pr_operandAddress (nI 158) (ps mu 9 7 ((mu 9 7 + 1) &&& 65535))).1 1 (F_Pr_operandAddress (nI 158) (ps mu 9 7 ((mu 9 7 + 1) &&& 65535))).2) (F_Md_instruction_100 (nu 12 6) (F_Md_worksOnTwo_23 14 1 0 (ps nu 12 6 ((nu 12 6 + 1) &&& 65535))).1 (F_Md_worksOnTwo_23 14 1 0 (ps nu 12 6 ((nu 12 6 + 1) &&& 65535))).2)
  exact fin_l (g_ldw' y10 (op := nI 158) (w := 1) (z := 0) (rel_p1 h) (by decide +kernel) (Or.inl (by unfold way; decide +kernel)) (Or.inl rfl))
theorem op_159 {mu nu : Mu} (h : Rel mu nu) : OPS 159 mu nu := by
  unfold OPS
  rw [act_9 (by decide) (by decide) (by decide)]
  rw [md_i8 (by decide) (by decide)]
  show Rel (F_Pr_doWithOperand_12 (nI 159) (F_Pr_operandAddress (nI 159) (ps mu 9 7 ((mu 9 7 + 1) &&& 65535))).1 1 (F_Pr_operandAddress (nI 159) (ps mu 9 7 ((mu 9 7 + 1) &&& 65535))).2) (F_Md_instruction_100 (nu 12 6) (F_Md_worksOnTwo_23 15 1 0 (ps nu 12 6 ((nu 12 6 + 1) &&& 65535))).1 (F_Md_worksOnTwo_23 15 1 0 (ps nu 12 6 ((nu 12 6 + 1) &&& 65535))).2)
  exact fin_l (g_stw' y10 (op := nI 159) (w := 1) (z := 0) (rel_p1 h) (by decide +kernel) (by unfold way; decide +kernel) (Or.inl rfl))
