theorem op_160 {mu nu : Mu} (h : Rel mu nu) : OPS 160 mu nu := by
  unfold OPS
  rw [act_10 (by decide) (by decide) (by decide)]
  rw [md_i8 (by decide) (by decide)]
  show Rel (F_Pr_doWithOperand_12 (nI 160) (F_Pr_operandAddress (nI 160) (ps mu 9 7 ((mu 9 7 + 1) &&& 65535))).1 1 (F_Pr_operandAddress (nI 160) (ps mu 9 7 ((mu 9 7 + 1) &&& 65535))).2) (F_Md_instruction_100 (nu 12 6) (F_Md_worksOnTwo_23 0 2 0 (ps nu 12 6 ((nu 12 6 + 1) &&& 65535))).1 (F_Md_worksOnTwo_23 0 2 0 (ps nu 12 6 ((nu 12 6 + 1) &&& 65535))).2)
  exact fin_l (g_two' y10 (op := nI 160) (d := 0) (w := 2) (z := 0) (rel_p1 h) (by decide +kernel) (by unfold isTw; decide +kernel) (Or.inl (by unfold way; decide +kernel)) (Or.inl rfl))
theorem op_161 {mu nu : Mu} (h : Rel mu nu) : OPS 161 mu nu := by
  unfold OPS
  rw [act_10 (by decide) (by decide) (by decide)]
  rw [md_i8 (by decide) (by decide)]
  show Rel (F_Pr_doWithOperand_12 (nI 161) (F_Pr_operandAddress (nI 161) (ps mu 9 7 ((mu 9 7 + 1) &&& 65535))).1 1 (F_Pr_operandAddress (nI 161) (ps mu 9 7 ((mu 9 7 + 1) &&& 65535))).2) (F_Md_instruction_100 (nu 12 6) (F_Md_worksOnTwo_23 1 2 0 (ps nu 12 6 ((nu 12 6 + 1) &&& 65535))).1 (F_Md_worksOnTwo_23 1 2 0 (ps nu 12 6 ((nu 12 6 + 1) &&& 65535))).2)
  exact fin_l (g_two' y10 (op := nI 161) (d := 1) (w := 2) (z := 0) (rel_p1 h) (by decide +kernel) (by unfold isTw; decide +kernel) (Or.inl (by unfold way; decide +kernel)) (Or.inl rfl))
theorem op_162 {mu nu : Mu} (h : Rel mu nu) : OPS 162 mu nu := by
  unfold OPS
  rw [act_10 (by decide) (by decide) (by decide)]
  rw [md_i8 (by decide) (by decide)]
  show Rel (F_Pr_doWithOperand_12 (nI 162) (F_Pr_operandAddress (nI 162) (ps mu 9 7 ((mu 9 7 + 1) &&& 65535))).1 1 (F_Pr_operandAddress (nI 162) (ps mu 9 7 ((mu 9 7 + 1) &&& 65535))).2) (F_Md_instruction_100 (nu 12 6) (F_Md_worksOnTwo_23 2 2 0 (ps nu 12 6 ((nu 12 6 + 1) &&& 65535))).1 (F_Md_worksOnTwo_23 2 2 0 (ps nu 12 6 ((nu 12 6 + 1) &&& 65535))).2)
  exact fin_l (g_two' y10 (op := nI 162) (d := 2) (w := 2) (z := 0) (rel_p1 h) (by decide +kernel) (by unfold isTw; decide +kernel) (Or.inl (by unfold way; decide +kernel)) (Or.inl rfl))
theorem op_163 {mu nu : Mu} (h : Rel mu nu) : OPS 163 mu nu := by
  unfold OPS
  rw [act_il (by decide) (by decide)]
  rw [md_i8 (by decide) (by decide)]
  exact fin_i (v := (nu 12 6 + 1) &&& 65535) h (by simp +decide only [F_Md_worksOnTwo_23, F_Md_withWords, F_Md_withWords_22, F_Md_withWords_48, F_Md_withWords_115, ↓reduceIte])
theorem op_164 {mu nu : Mu} (h : Rel mu nu) : OPS 164 mu nu := by
  unfold OPS
  rw [act_10 (by decide) (by decide) (by decide)]
  rw [md_i8 (by decide) (by decide)]
  show Rel (F_Pr_doWithOperand_12 (nI 164) (F_Pr_operandAddress (nI 164) (ps mu 9 7 ((mu 9 7 + 1) &&& 65535))).1 1 (F_Pr_operandAddress (nI 164) (ps mu 9 7 ((mu 9 7 + 1) &&& 65535))).2) (F_Md_instruction_100 (nu 12 6) (F_Md_worksOnTwo_23 4 2 0 (ps nu 12 6 ((nu 12 6 + 1) &&& 65535))).1 (F_Md_worksOnTwo_23 4 2 0 (ps nu 12 6 ((nu 12 6 + 1) &&& 65535))).2)
  exact fin_l (g_two' y10 (op := nI 164) (d := 4) (w := 2) (z := 0) (rel_p1 h) (by decide +kernel) (by unfold isTw; decide +kernel) (Or.inl (by unfold way; decide +kernel)) (Or.inl rfl))
theorem op_165 {mu nu : Mu} (h : Rel mu nu) : OPS 165 mu nu := by
  unfold OPS
  rw [act_10 (by decide) (by decide) (by decide)]
  rw [md_i8 (by decide) (by decide)]
  show Rel (F_Pr_doWithOperand_12 (nI 165) (F_Pr_operandAddress (nI 165) (ps mu 9 7 ((mu 9 7 + 1) &&& 65535))).1 1 (F_Pr_operandAddress (nI 165) (ps mu 9 7 ((mu 9 7 + 1) &&& 65535))).2) (F_Md_instruction_100 (nu 12 6) (F_Md_worksOnTwo_23 5 2 0 (ps nu 12 6 ((nu 12 6 + 1) &&& 65535))).1 (F_Md_worksOnTwo_23 5 2 0 (ps nu 12 6 ((nu 12 6 + 1) &&& 65535))).2)
  exact fin_l (g_two' y10 (op := nI 165) (d := 5) (w := 2) (z := 0) (rel_p1 h) (by decide +kernel) (by unfold isTw; decide +kernel) (Or.inl (by unfold way; decide +kernel)) (Or.inl rfl))
theorem op_166 {mu nu : Mu} (h : Rel mu nu) : OPS 166 mu nu := by
  unfold OPS
  rw [act_10 (by decide) (by decide) (by decide)]
  rw [md_i8 (by decide) (by decide)]
  show Rel (F_Pr_doWithOperand_12 (nI 166) (F_Pr_operandAddress (nI 166) (ps mu 9 7 ((mu 9 7 + 1) &&& 65535))).1 1 (F_Pr_operandAddress (nI 166) (ps mu 9 7 ((mu 9 7 + 1) &&& 65535))).2) (F_Md_instruction_100 (nu 12 6) (F_Md_worksOnTwo_23 6 2 0 (ps nu 12 6 ((nu 12 6 + 1) &&& 65535))).1 (F_Md_worksOnTwo_23 6 2 0 (ps nu 12 6 ((nu 12 6 + 1) &&& 65535))).2)
  exact fin_l (g_two' y10 (op := nI 166) (d := 6) (w := 2) (z := 0) (rel_p1 h) (by decide +kernel) (by unfold isTw; decide +kernel) (Or.inl (by unfold way; decide +kernel)) (Or.inl rfl))
theorem op_167 {mu nu : Mu} (h : Rel mu nu) : OPS 167 mu nu := by
  unfold OPS
  rw [act_10 (by decide) (by decide) (by decide)]
  rw [md_i8 (by decide) (by decide)]
  show Rel (F_Pr_doWithOperand_12 (nI 167) (F_Pr_operandAddress (nI 167) (ps mu 9 7 ((mu 9 7 + 1) &&& 65535))).1 1 (F_Pr_operandAddress (nI 167) (ps mu 9 7 ((mu 9 7 + 1) &&& 65535))).2) (F_Md_instruction_100 (nu 12 6) (F_Md_worksOnTwo_23 7 2 0 (ps nu 12 6 ((nu 12 6 + 1) &&& 65535))).1 (F_Md_worksOnTwo_23 7 2 0 (ps nu 12 6 ((nu 12 6 + 1) &&& 65535))).2)
  exact fin_l (g_sta' y10 (op := nI 167) (w := 2) (z := 0) (rel_p1 h) (by decide +kernel) (by unfold way; decide +kernel) (Or.inl rfl))
theorem op_168 {mu nu : Mu} (h : Rel mu nu) : OPS 168 mu nu := by
  unfold OPS
  rw [act_10 (by decide) (by decide) (by decide)]
  rw [md_i8 (by decide) (by decide)]
  show Rel (F_Pr_doWithOperand_12 (nI 168) (F_Pr_operandAddress (nI 168) (ps mu 9 7 ((mu 9 7 + 1) &&& 65535))).1 1 (F_Pr_operandAddress (nI 168) (ps mu 9 7 ((mu 9 7 + 1) &&& 65535))).2) (F_Md_instruction_100 (nu 12 6) (F_Md_worksOnTwo_23 8 2 0 (ps nu 12 6 ((nu 12 6 + 1) &&& 65535))).1 (F_Md_worksOnTwo_23 8 2 0 (ps nu 12 6 ((nu 12 6 + 1) &&& 65535))).2)
  exact fin_l (g_two' y10 (op := nI 168) (d := 8) (w := 2) (z := 0) (rel_p1 h) (by decide +kernel) (by unfold isTw; decide +kernel) (Or.inl (by unfold way; decide +kernel)) (Or.inl rfl))
theorem op_169 {mu nu : Mu} (h : Rel mu nu) : OPS 169 mu nu := by
  unfold OPS
  rw [act_10 (by decide) (by decide) (by decide)]
  rw [md_i8 (by decide) (by decide)]
  show Rel (F_Pr_doWithOperand_12 (nI 169) (F_Pr_operandAddress (nI 169) (ps mu 9 7 ((mu 9 7 + 1) &&& 65535))).1 1 (F_Pr_operandAddress (nI 169) (ps mu 9 7 ((mu 9 7 + 1) &&& 65535))).2) (F_Md_instruction_100 (nu 12 6) (F_Md_worksOnTwo_23 9 2 0 (ps nu 12 6 ((nu 12 6 + 1) &&& 65535))).1 (F_Md_worksOnTwo_23 9 2 0 (ps nu 12 6 ((nu 12 6 + 1) &&& 65535))).2)
  exact fin_l (g_two' y10 (op := nI 169) (d := 9) (w := 2) (z := 0) (rel_p1 h) (by decide +kernel) (by unfold isTw; decide +kernel) (Or.inl (by unfold way; decide +kernel)) (Or.inl rfl))
theorem op_170 {mu nu : Mu} (h : Rel mu nu) : OPS 170 mu nu := by
  unfold OPS
  rw [act_10 (by decide) (by decide) (by decide)]
  rw [md_i8 (by decide) (by decide)]
  show Rel (F_Pr_doWithOperand_12 (nI 170) (F_Pr_operandAddress (nI 170) (ps mu 9 7 ((mu 9 7 + 1) &&& 65535))).1 1 (F_Pr_operandAddress (nI 170) (ps mu 9 7 ((mu 9 7 + 1) &&& 65535))).2) (F_Md_instruction_100 (nu 12 6) (F_Md_worksOnTwo_23 10 2 0 (ps nu 12 6 ((nu 12 6 + 1) &&& 65535))).1 (F_Md_worksOnTwo_23 10 2 0 (ps nu 12 6 ((nu 12 6 + 1) &&& 65535))).2)
  exact fin_l (g_two' y10 (op := nI 170) (d := 10) (w := 2) (z := 0) (rel_p1 h) (by decide +kernel) (by unfold isTw; decide +kernel) (Or.inl (by unfold way; decide +kernel)) (Or.inl rfl))
theorem op_171 {mu nu : Mu} (h : Rel mu nu) : OPS 171 mu nu := by
  unfold OPS
  rw [act_10 (by decide) (by decide) (by decide)]
  rw [md_i8 (by decide) (by decide)]
  show Rel (F_Pr_doWithOperand_12 (nI 171) (F_Pr_operandAddress (nI 171) (ps mu 9 7 ((mu 9 7 + 1) &&& 65535))).1 1 (F_Pr_operandAddress (nI 171) (ps mu 9 7 ((mu 9 7 + 1) &&& 65535))).2) (F_Md_instruction_100 (nu 12 6) (F_Md_worksOnTwo_23 11 2 0 (ps nu 12 6 ((nu 12 6 + 1) &&& 65535))).1 (F_Md_worksOnTwo_23 11 2 0 (ps nu 12 6 ((nu 12 6 + 1) &&& 65535))).2)
  exact fin_l (g_two' y10 (op := nI 171) (d := 11) (w := 2) (z := 0) (rel_p1 h) (by decide +kernel) (by unfold isTw; decide +kernel) (Or.inl (by unfold way; decide +kernel)) (Or.inl rfl))
theorem op_172 {mu nu : Mu} (h : Rel mu nu) : OPS 172 mu nu := by
  unfold OPS
  rw [act_10 (by decide) (by decide) (by decide)]
  rw [md_i8 (by decide) (by decide)]
  show Rel (F_Pr_doWithOperand_12 (nI 172) (F_Pr_operandAddress (nI 172) (ps mu 9 7 ((mu 9 7 + 1) &&& 65535))).1 1 (F_Pr_operandAddress (nI 172) (ps mu 9 7 ((mu 9 7 + 1) &&& 65535))).2) (F_Md_instruction_100 (nu 12 6) (F_Md_worksOnTwo_23 12 2 0 (ps nu 12 6 ((nu 12 6 + 1) &&& 65535))).1 (F_Md_worksOnTwo_23 12 2 0 (ps nu 12 6 ((nu 12 6 + 1) &&& 65535))).2)
  exact fin_l (g_cpx (op := nI 172) (w := 2) (rel_p1 h) (by decide +kernel) (Or.inl (by unfold way; decide +kernel)))
theorem op_173 {mu nu : Mu} (h : Rel mu nu) : OPS 173 mu nu := by
  unfold OPS
  rw [act_10 (by decide) (by decide) (by decide)]
  rw [md_i8 (by decide) (by decide)]
  show Rel (F_Pr_doWithOperand_12 (nI 173) (F_Pr_operandAddress (nI 173) (ps mu 9 7 ((mu 9 7 + 1) &&& 65535))).1 1 (F_Pr_operandAddress (nI 173) (ps mu 9 7 ((mu 9 7 + 1) &&& 65535))).2) (F_Md_instruction_100 (nu 12 6) (F_Md_worksOnTwo_23 13 2 0 (ps nu 12 6 ((nu 12 6 + 1) &&& 65535))).1 (F_Md_worksOnTwo_23 13 2 0 (ps nu 12 6 ((nu 12 6 + 1) &&& 65535))).2)
  exact fin_l (g_call (op := nI 173) (w := 2) (rel_p1 h) (by decide +kernel) (by decide +kernel) (by unfold way; decide +kernel) (by decide +kernel))
theorem op_174 {mu nu : Mu} (h : Rel mu nu) : OPS 174 mu nu := by
  unfold OPS
  rw [act_10 (by decide) (by decide) (by decide)]
  rw [md_i8 (by decide) (by decide)]
  show Rel (F_Pr_doWithOperand_12 (nI 174) (F_Pr_operandAddress (nI 174) (ps mu 9 7 ((mu 9 7 + 1) &&& 65535))).1 1 (F_Pr_operandAddress (nI 174) (ps mu 9 7 ((mu 9 7 + 1) &&& 65535))).2) (F_Md_instruction_100 (nu 12 6) (F_Md_worksOnTwo_23 14 2 0 (ps nu 12 6 ((nu 12 6 + 1) &&& 65535))).1 (F_Md_worksOnTwo_23 14 2 0 (ps nu 12 6 ((nu 12 6 + 1) &&& 65535))).2)
  exact fin_l (g_ldw' y10 (op := nI 174) (w := 2) (z := 0) (rel_p1 h) (by decide +kernel) (Or.inl (by unfold way; decide +kernel)) (Or.inl rfl))
theorem op_175 {mu nu : Mu} (h : Rel mu nu) : OPS 175 mu nu := by
  unfold OPS
  rw [act_10 (by decide) (by decide) (by decide)]
  rw [md_i8 (by decide) (by decide)]
  show Rel (F_Pr_doWithOperand_12 (nI 175) (F_Pr_operandAddress (nI 175) (ps mu 9 7 ((mu 9 7 + 1) &&& 65535))).1 1 (F_Pr_operandAddress (nI 175) (ps mu 9 7 ((mu 9 7 + 1) &&& 65535))).2) (F_Md_instruction_100 (nu 12 6) (F_Md_worksOnTwo_23 15 2 0 (ps nu 12 6 ((nu 12 6 + 1) &&& 65535))).1 (F_Md_worksOnTwo_23 15 2 0 (ps nu 12 6 ((nu 12 6 + 1) &&& 65535))).2)
  exact fin_l (g_stw' y10 (op := nI 175) (w := 2) (z := 0) (rel_p1 h) (by decide +kernel) (by unfold way; decide +kernel) (Or.inl rfl))
theorem op_176 {mu nu : Mu} (h : Rel mu nu) : OPS 176 mu nu := by
  unfold OPS
  rw [act_11 (by decide) (by decide) (by decide)]
  rw [md_i8 (by decide) (by decide)]
  show Rel (F_Pr_doWithOperand_12 (nI 176) (F_Pr_operandAddress (nI 176) (ps mu 9 7 ((mu 9 7 + 1) &&& 65535))).1 1 (F_Pr_operandAddress (nI 176) (ps mu 9 7 ((mu 9 7 + 1) &&& 65535))).2) (F_Md_instruction_100 (nu 12 6) (F_Md_worksOnTwo_23 0 3 0 (ps nu 12 6 ((nu 12 6 + 1) &&& 65535))).1 (F_Md_worksOnTwo_23 0 3 0 (ps nu 12 6 ((nu 12 6 + 1) &&& 65535))).2)
  exact fin_l (g_two' y10 (op := nI 176) (d := 0) (w := 3) (z := 0) (rel_p1 h) (by decide +kernel) (by unfold isTw; decide +kernel) (Or.inl (by unfold way; decide +kernel)) (Or.inl rfl))
theorem op_177 {mu nu : Mu} (h : Rel mu nu) : OPS 177 mu nu := by
  unfold OPS
  rw [act_11 (by decide) (by decide) (by decide)]
  rw [md_i8 (by decide) (by decide)]
  show Rel (F_Pr_doWithOperand_12 (nI 177) (F_Pr_operandAddress (nI 177) (ps mu 9 7 ((mu 9 7 + 1) &&& 65535))).1 1 (F_Pr_operandAddress (nI 177) (ps mu 9 7 ((mu 9 7 + 1) &&& 65535))).2) (F_Md_instruction_100 (nu 12 6) (F_Md_worksOnTwo_23 1 3 0 (ps nu 12 6 ((nu 12 6 + 1) &&& 65535))).1 (F_Md_worksOnTwo_23 1 3 0 (ps nu 12 6 ((nu 12 6 + 1) &&& 65535))).2)
  exact fin_l (g_two' y10 (op := nI 177) (d := 1) (w := 3) (z := 0) (rel_p1 h) (by decide +kernel) (by unfold isTw; decide +kernel) (Or.inl (by unfold way; decide +kernel)) (Or.inl rfl))
theorem op_178 {mu nu : Mu} (h : Rel mu nu) : OPS 178 mu nu := by
  unfold OPS
  rw [act_11 (by decide) (by decide) (by decide)]
  rw [md_i8 (by decide) (by decide)]
  show Rel (F_Pr_doWithOperand_12 (nI 178) (F_Pr_operandAddress (nI 178) (ps mu 9 7 ((mu 9 7 + 1) &&& 65535))).1 1 (F_Pr_operandAddress (nI 178) (ps mu 9 7 ((mu 9 7 + 1) &&& 65535))).2) (F_Md_instruction_100 (nu 12 6) (F_Md_worksOnTwo_23 2 3 0 (ps nu 12 6 ((nu 12 6 + 1) &&& 65535))).1 (F_Md_worksOnTwo_23 2 3 0 (ps nu 12 6 ((nu 12 6 + 1) &&& 65535))).2)
  exact fin_l (g_two' y10 (op := nI 178) (d := 2) (w := 3) (z := 0) (rel_p1 h) (by decide +kernel) (by unfold isTw; decide +kernel) (Or.inl (by unfold way; decide +kernel)) (Or.inl rfl))
theorem op_179 {mu nu : Mu} (h : Rel mu nu) : OPS 179 mu nu := by
  unfold OPS
  rw [act_il (by decide) (by decide)]
  rw [md_i8 (by decide) (by decide)]
  exact fin_i (v := (nu 12 6 + 1) &&& 65535) h (by simp +decide only [F_Md_worksOnTwo_23, F_Md_withWords, F_Md_withWords_22, F_Md_withWords_48, F_Md_withWords_115, ↓reduceIte])
theorem op_180 {mu nu : Mu} (h : Rel mu nu) : OPS 180 mu nu := by
  unfold OPS
  rw [act_11 (by decide) (by decide) (by decide)]
  rw [md_i8 (by decide) (by decide)]
  show Rel (F_Pr_doWithOperand_12 (nI 180) (F_Pr_operandAddress (nI 180) (ps mu 9 7 ((mu 9 7 + 1) &&& 65535))).1 1 (F_Pr_operandAddress (nI 180) (ps mu 9 7 ((mu 9 7 + 1) &&& 65535))).2) (F_Md_instruction_100 (nu 12 6) (F_Md_worksOnTwo_23 4 3 0 (ps nu 12 6 ((nu 12 6 + 1) &&& 65535))).1 (F_Md_worksOnTwo_23 4 3 0 (ps nu 12 6 ((nu 12 6 + 1) &&& 65535))).2)
  exact fin_l (g_two' y10 (op := nI 180) (d := 4) (w := 3) (z := 0) (rel_p1 h) (by decide +kernel) (by unfold isTw; decide +kernel) (Or.inl (by unfold way; decide +kernel)) (Or.inl rfl))
theorem op_181 {mu nu : Mu} (h : Rel mu nu) : OPS 181 mu nu := by
  unfold OPS
  rw [act_11 (by decide) (by decide) (by decide)]
  rw [md_i8 (by decide) (by decide)]
  show Rel (F_Pr_doWithOperand_12 (nI 181) (F_Pr_operandAddress (nI 181) (ps mu 9 7 ((mu 9 7 + 1) &&& 65535))).1 1 (F_Pr_operandAddress (nI 181) (ps mu 9 7 ((mu 9 7 + 1) &&& 65535))).2) (F_Md_instruction_100 (nu 12 6) (F_Md_worksOnTwo_23 5 3 0 (ps nu 12 6 ((nu 12 6 + 1) &&& 65535))).1 (F_Md_worksOnTwo_23 5 3 0 (ps nu 12 6 ((nu 12 6 + 1) &&& 65535))).2)
  exact fin_l (g_two' y10 (op := nI 181) (d := 5) (w := 3) (z := 0) (rel_p1 h) (by decide +kernel) (by unfold isTw; decide +kernel) (Or.inl (by unfold way; decide +kernel)) (Or.inl rfl))
theorem op_182 {mu nu : Mu} (h : Rel mu nu) : OPS 182 mu nu := by
  unfold OPS
  rw [act_11 (by decide) (by decide) (by decide)]
  rw [md_i8 (by decide) (by decide)]
  show Rel (F_Pr_doWithOperand_12 (nI 182) (F_Pr_operandAddress (nI 182) (ps mu 9 7 ((mu 9 7 + 1) &&& 65535))).1 1 (F_Pr_operandAddress (nI 182) (ps mu 9 7 ((mu 9 7 + 1) &&& 65535))).2) (F_Md_instruction_100 (nu 12 6) (F_Md_worksOnTwo_23 6 3 0 (ps nu 12 6 ((nu 12 6 + 1) &&& 65535))).1 (F_Md_worksOnTwo_23 6 3 0 (ps nu 12 6 ((nu 12 6 + 1) &&& 65535))).2)
  exact fin_l (g_two' y10 (op := nI 182) (d := 6) (w := 3) (z := 0) (rel_p1 h) (by decide +kernel) (by unfold isTw; decide +kernel) (Or.inl (by unfold way; decide +kernel)) (Or.inl rfl))
theorem op_183 {mu nu : Mu} (h : Rel mu nu) : OPS 183 mu nu := by
  unfold OPS
  rw [act_11 (by decide) (by decide) (by decide)]
  rw [md_i8 (by decide) (by decide)]
  show Rel (F_Pr_doWithOperand_12 (nI 183) (F_Pr_operandAddress (nI 183) (ps mu 9 7 ((mu 9 7 + 1) &&& 65535))).1 1 (F_Pr_operandAddress (nI 183) (ps mu 9 7 ((mu 9 7 + 1) &&& 65535))).2) (F_Md_instruction_100 (nu 12 6) (F_Md_worksOnTwo_23 7 3 0 (ps nu 12 6 ((nu 12 6 + 1) &&& 65535))).1 (F_Md_worksOnTwo_23 7 3 0 (ps nu 12 6 ((nu 12 6 + 1) &&& 65535))).2)
  exact fin_l (g_sta' y10 (op := nI 183) (w := 3) (z := 0) (rel_p1 h) (by decide +kernel) (by unfold way; decide +kernel) (Or.inl rfl))
theorem op_184 {mu nu : Mu} (h : Rel mu nu) : OPS 184 mu nu := by
  unfold OPS
  rw [act_11 (by decide) (by decide) (by decide)]
  rw [md_i8 (by decide) (by decide)]
  show Rel (F_Pr_doWithOperand_12 (nI 184) (F_Pr_operandAddress (nI 184) (ps mu 9 7 ((mu 9 7 + 1) &&& 65535))).1 1 (F_Pr_operandAddress (nI 184) (ps mu 9 7 ((mu 9 7 + 1) &&& 65535))).2) (F_Md_instruction_100 (nu 12 6) (F_Md_worksOnTwo_23 8 3 0 (ps nu 12 6 ((nu 12 6 + 1) &&& 65535))).1 (F_Md_worksOnTwo_23 8 3 0 (ps nu 12 6 ((nu 12 6 + 1) &&& 65535))).2)
  exact fin_l (g_two' y10 (op := nI 184) (d := 8) (w := 3) (z := 0) (rel_p1 h) (by decide +kernel) (by unfold isTw; decide +kernel) (Or.inl (by unfold way; decide +kernel)) (Or.inl rfl))
theorem op_185 {mu nu : Mu} (h : Rel mu nu) : OPS 185 mu nu := by
  unfold OPS
  rw [act_11 (by decide) (by decide) (by decide)]
  rw [md_i8 (by decide) (by decide)]
  show Rel (F_Pr_doWithOperand_12 (nI 185) (F_Pr_operandAddress (nI 185) (ps mu 9 7 ((mu 9 7 + 1) &&& 65535))).1 1 (F_Pr_operandAddress (nI 185) (ps mu 9 7 ((mu 9 7 + 1) &&& 65535))).2) (F_Md_instruction_100 (nu 12 6) (F_Md_worksOnTwo_23 9 3 0 (ps nu 12 6 ((nu 12 6 + 1) &&& 65535))).1 (F_Md_worksOnTwo_23 9 3 0 (ps nu 12 6 ((nu 12 6 + 1) &&& 65535))).2)
  exact fin_l (g_two' y10 (op := nI 185) (d := 9) (w := 3) (z := 0) (rel_p1 h) (by decide +kernel) (by unfold isTw; decide +kernel) (Or.inl (by unfold way; decide +kernel)) (Or.inl rfl))
theorem op_186 {mu nu : Mu} (h : Rel mu nu) : OPS 186 mu nu := by
  unfold OPS
  rw [act_11 (by decide) (by decide) (by decide)]
  rw [md_i8 (by decide) (by decide)]
  show Rel (F_Pr_doWithOperand_12 (nI 186) (F_Pr_operandAddress (nI 186) (ps mu 9 7 ((mu 9 7 + 1) &&& 65535))).1 1 (F_Pr_operandAddress (nI 186) (ps mu 9 7 ((mu 9 7 + 1) &&& 65535))).2) (F_Md_instruction_100 (nu 12 6) (F_Md_worksOnTwo_23 10 3 0 (ps nu 12 6 ((nu 12 6 + 1) &&& 65535))).1 (F_Md_worksOnTwo_23 10 3 0 (ps nu 12 6 ((nu 12 6 + 1) &&& 65535))).2)
  exact fin_l (g_two' y10 (op := nI 186) (d := 10) (w := 3) (z := 0) (rel_p1 h) (by decide +kernel) (by unfold isTw; decide +kernel) (Or.inl (by unfold way; decide +kernel)) (Or.inl rfl))
theorem op_187 {mu nu : Mu} (h : Rel mu nu) : OPS 187 mu nu := by
  unfold OPS
  rw [act_11 (by decide) (by decide) (by decide)]
  rw [md_i8 (by decide) (by decide)]
  show Rel (F_Pr_doWithOperand_12 (nI 187) (F_Pr_operandAddress (nI 187) (ps mu 9 7 ((mu 9 7 + 1) &&& 65535))).1 1 (F_Pr_operandAddress (nI 187) (ps mu 9 7 ((mu 9 7 + 1) &&& 65535))).2) (F_Md_instruction_100 (nu 12 6) (F_Md_worksOnTwo_23 11 3 0 (ps nu 12 6 ((nu 12 6 + 1) &&& 65535))).1 (F_Md_worksOnTwo_23 11 3 0 (ps nu 12 6 ((nu 12 6 + 1) &&& 65535))).2)
  exact fin_l (g_two' y10 (op := nI 187) (d := 11) (w := 3) (z := 0) (rel_p1 h) (by decide +kernel) (by unfold isTw; decide +kernel) (Or.inl (by unfold way; decide +kernel)) (Or.inl rfl))
theorem op_188 {mu nu : Mu} (h : Rel mu nu) : OPS 188 mu nu := by
  unfold OPS
  rw [act_11 (by decide) (by decide) (by decide)]
  rw [md_i8 (by decide) (by decide)]
  show Rel (F_Pr_doWithOperand_12 (nI 188) (F_Pr_operandAddress (nI 188) (ps mu 9 7 ((mu 9 7 + 1) &&& 65535))).1 1 (F_Pr_operandAddress (nI 188) (ps mu 9 7 ((mu 9 7 + 1) &&& 65535))).2) (F_Md_instruction_100 (nu 12 6) (F_Md_worksOnTwo_23 12 3 0 (ps nu 12 6 ((nu 12 6 + 1) &&& 65535))).1 (F_Md_worksOnTwo_23 12 3 0 (ps nu 12 6 ((nu 12 6 + 1) &&& 65535))).2)
  exact fin_l (g_cpx (op := nI 188) (w := 3) (rel_p1 h) (by decide +kernel) (Or.inl (by unfold way; decide +kernel)))
theorem op_189 {mu nu : Mu} (h : Rel mu nu) : OPS 189 mu nu := by
  unfold OPS
  rw [act_11 (by decide) (by decide) (by decide)]
  rw [md_i8 (by decide) (by decide)]
  show Rel (F_Pr_doWithOperand_12 (nI 189) (F_Pr_operandAddress (nI 189) (ps mu 9 7 ((mu 9 7 + 1) &&& 65535))).1 1 (F_Pr_operandAddress (nI 189) (ps mu 9 7 ((mu 9 7 + 1) &&& 65535))).2) (F_Md_instruction_100 (nu 12 6) (F_Md_worksOnTwo_23 13 3 0 (ps nu 12 6 ((nu 12 6 + 1) &&& 65535))).1 (F_Md_worksOnTwo_23 13 3 0 (ps nu 12 6 ((nu 12 6 + 1) &&& 65535))).2)
  exact fin_l (g_call (op := nI 189) (w := 3) (rel_p1 h) (by decide +kernel) (by decide +kernel) (by unfold way; decide +kernel) (by decide +kernel))
theorem op_190 {mu nu : Mu} (h : Rel mu nu) : OPS 190 mu nu := by
  unfold OPS
  rw [act_11 (by decide) (by decide) (by decide)]
  rw [md_i8 (by decide) (by decide)]
  show Rel (F_Pr_doWithOperand_12 (nI 190) (F_Pr_operandAddress (nI 190) (ps mu 9 7 ((mu 9 7 + 1) &&& 65535))).1 1 (F_Pr_operandAddress (nI 190) (ps mu 9 7 ((mu 9 7 + 1) &&& 65535))).2) (F_Md_instruction_100 (nu 12 6) (F_Md_worksOnTwo_23 14 3 0 (ps nu 12 6 ((nu 12 6 + 1) &&& 65535))).1 (F_Md_worksOnTwo_23 14 3 0 (ps nu 12 6 ((nu 12 6 + 1) &&& 65535))).2)
  exact fin_l (g_ldw' y10 (op := nI 190) (w := 3) (z := 0) (rel_p1 h) (by decide +kernel) (Or.inl (by unfold way; decide +kernel)) (Or.inl rfl))
theorem op_191 {mu nu : Mu} (h : Rel mu nu) : OPS 191 mu nu := by
  unfold OPS
  rw [act_11 (by decide) (by decide) (by decide)]
  rw [md_i8 (by decide) (by decide)]
  show Rel (F_Pr_doWithOperand_12 (nI 191) (F_Pr_operandAddress (nI 191) (ps mu 9 7 ((mu 9 7 + 1) &&& 65535))).1 1 (F_Pr_operandAddress (nI 191) (ps mu 9 7 ((mu 9 7 + 1) &&& 65535))).2) (F_Md_instruction_100 (nu 12 6) (F_Md_worksOnTwo_23 15 3 0 (ps nu 12 6 ((nu 12 6 + 1) &&& 65535))).1 (F_Md_worksOnTwo_23 15 3 0 (ps nu 12 6 ((nu 12 6 + 1) &&& 65535))).2)
  exact fin_l (g_stw' y10 (op := nI 191) (w := 3) (z := 0) (rel_p1 h) (by decide +kernel) (by unfold way; decide +kernel) (Or.inl rfl))
