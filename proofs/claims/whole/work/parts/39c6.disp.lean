theorem op_224 {mu nu : Mu} (h : Rel mu nu) : OPS 224 mu nu := by
  unfold OPS
  rw [act_14 (by decide) (by decide) (by decide)]
  rw [md_i8 (by decide) (by decide)]
  show Rel (F_Pr_doWithOperand_12 (nI 224) (F_Pr_operandAddress (nI 224) (ps mu 9 7 ((mu 9 7 + 1) &&& 65535))).1 0 (F_Pr_operandAddress (nI 224) (ps mu 9 7 ((mu 9 7 + 1) &&& 65535))).2) (F_Md_instruction_100 (nu 12 6) (F_Md_worksOnTwo_23 0 2 1 (ps nu 12 6 ((nu 12 6 + 1) &&& 65535))).1 (F_Md_worksOnTwo_23 0 2 1 (ps nu 12 6 ((nu 12 6 + 1) &&& 65535))).2)
  exact fin_l (g_two' y11 (op := nI 224) (d := 0) (w := 2) (z := 1) (rel_p1 h) (by decide +kernel) (by unfold isTw; decide +kernel) (Or.inl (by unfold way; decide +kernel)) (Or.inr rfl))
theorem op_225 {mu nu : Mu} (h : Rel mu nu) : OPS 225 mu nu := by
  unfold OPS
  rw [act_14 (by decide) (by decide) (by decide)]
  rw [md_i8 (by decide) (by decide)]
  show Rel (F_Pr_doWithOperand_12 (nI 225) (F_Pr_operandAddress (nI 225) (ps mu 9 7 ((mu 9 7 + 1) &&& 65535))).1 0 (F_Pr_operandAddress (nI 225) (ps mu 9 7 ((mu 9 7 + 1) &&& 65535))).2) (F_Md_instruction_100 (nu 12 6) (F_Md_worksOnTwo_23 1 2 1 (ps nu 12 6 ((nu 12 6 + 1) &&& 65535))).1 (F_Md_worksOnTwo_23 1 2 1 (ps nu 12 6 ((nu 12 6 + 1) &&& 65535))).2)
  exact fin_l (g_two' y11 (op := nI 225) (d := 1) (w := 2) (z := 1) (rel_p1 h) (by decide +kernel) (by unfold isTw; decide +kernel) (Or.inl (by unfold way; decide +kernel)) (Or.inr rfl))
theorem op_226 {mu nu : Mu} (h : Rel mu nu) : OPS 226 mu nu := by
  unfold OPS
  rw [act_14 (by decide) (by decide) (by decide)]
  rw [md_i8 (by decide) (by decide)]
  show Rel (F_Pr_doWithOperand_12 (nI 226) (F_Pr_operandAddress (nI 226) (ps mu 9 7 ((mu 9 7 + 1) &&& 65535))).1 0 (F_Pr_operandAddress (nI 226) (ps mu 9 7 ((mu 9 7 + 1) &&& 65535))).2) (F_Md_instruction_100 (nu 12 6) (F_Md_worksOnTwo_23 2 2 1 (ps nu 12 6 ((nu 12 6 + 1) &&& 65535))).1 (F_Md_worksOnTwo_23 2 2 1 (ps nu 12 6 ((nu 12 6 + 1) &&& 65535))).2)
  exact fin_l (g_two' y11 (op := nI 226) (d := 2) (w := 2) (z := 1) (rel_p1 h) (by decide +kernel) (by unfold isTw; decide +kernel) (Or.inl (by unfold way; decide +kernel)) (Or.inr rfl))
theorem op_227 {mu nu : Mu} (h : Rel mu nu) : OPS 227 mu nu := by
  unfold OPS
  rw [act_il (by decide) (by decide)]
  rw [md_i8 (by decide) (by decide)]
  exact fin_i (v := (nu 12 6 + 1) &&& 65535) h (by simp +decide only [F_Md_worksOnTwo_23, F_Md_withWords, F_Md_withWords_22, F_Md_withWords_48, F_Md_withWords_115, ↓reduceIte])
theorem op_228 {mu nu : Mu} (h : Rel mu nu) : OPS 228 mu nu := by
  unfold OPS
  rw [act_14 (by decide) (by decide) (by decide)]
  rw [md_i8 (by decide) (by decide)]
  show Rel (F_Pr_doWithOperand_12 (nI 228) (F_Pr_operandAddress (nI 228) (ps mu 9 7 ((mu 9 7 + 1) &&& 65535))).1 0 (F_Pr_operandAddress (nI 228) (ps mu 9 7 ((mu 9 7 + 1) &&& 65535))).2) (F_Md_instruction_100 (nu 12 6) (F_Md_worksOnTwo_23 4 2 1 (ps nu 12 6 ((nu 12 6 + 1) &&& 65535))).1 (F_Md_worksOnTwo_23 4 2 1 (ps nu 12 6 ((nu 12 6 + 1) &&& 65535))).2)
  exact fin_l (g_two' y11 (op := nI 228) (d := 4) (w := 2) (z := 1) (rel_p1 h) (by decide +kernel) (by unfold isTw; decide +kernel) (Or.inl (by unfold way; decide +kernel)) (Or.inr rfl))
theorem op_229 {mu nu : Mu} (h : Rel mu nu) : OPS 229 mu nu := by
  unfold OPS
  rw [act_14 (by decide) (by decide) (by decide)]
  rw [md_i8 (by decide) (by decide)]
  show Rel (F_Pr_doWithOperand_12 (nI 229) (F_Pr_operandAddress (nI 229) (ps mu 9 7 ((mu 9 7 + 1) &&& 65535))).1 0 (F_Pr_operandAddress (nI 229) (ps mu 9 7 ((mu 9 7 + 1) &&& 65535))).2) (F_Md_instruction_100 (nu 12 6) (F_Md_worksOnTwo_23 5 2 1 (ps nu 12 6 ((nu 12 6 + 1) &&& 65535))).1 (F_Md_worksOnTwo_23 5 2 1 (ps nu 12 6 ((nu 12 6 + 1) &&& 65535))).2)
  exact fin_l (g_two' y11 (op := nI 229) (d := 5) (w := 2) (z := 1) (rel_p1 h) (by decide +kernel) (by unfold isTw; decide +kernel) (Or.inl (by unfold way; decide +kernel)) (Or.inr rfl))
theorem op_230 {mu nu : Mu} (h : Rel mu nu) : OPS 230 mu nu := by
  unfold OPS
  rw [act_14 (by decide) (by decide) (by decide)]
  rw [md_i8 (by decide) (by decide)]
  show Rel (F_Pr_doWithOperand_12 (nI 230) (F_Pr_operandAddress (nI 230) (ps mu 9 7 ((mu 9 7 + 1) &&& 65535))).1 0 (F_Pr_operandAddress (nI 230) (ps mu 9 7 ((mu 9 7 + 1) &&& 65535))).2) (F_Md_instruction_100 (nu 12 6) (F_Md_worksOnTwo_23 6 2 1 (ps nu 12 6 ((nu 12 6 + 1) &&& 65535))).1 (F_Md_worksOnTwo_23 6 2 1 (ps nu 12 6 ((nu 12 6 + 1) &&& 65535))).2)
  exact fin_l (g_two' y11 (op := nI 230) (d := 6) (w := 2) (z := 1) (rel_p1 h) (by decide +kernel) (by unfold isTw; decide +kernel) (Or.inl (by unfold way; decide +kernel)) (Or.inr rfl))
theorem op_231 {mu nu : Mu} (h : Rel mu nu) : OPS 231 mu nu := by
  unfold OPS
  rw [act_14 (by decide) (by decide) (by decide)]
  rw [md_i8 (by decide) (by decide)]
  show Rel (F_Pr_doWithOperand_12 (nI 231) (F_Pr_operandAddress (nI 231) (ps mu 9 7 ((mu 9 7 + 1) &&& 65535))).1 0 (F_Pr_operandAddress (nI 231) (ps mu 9 7 ((mu 9 7 + 1) &&& 65535))).2) (F_Md_instruction_100 (nu 12 6) (F_Md_worksOnTwo_23 7 2 1 (ps nu 12 6 ((nu 12 6 + 1) &&& 65535))).1 (F_Md_worksOnTwo_23 7 2 1 (ps nu 12 6 ((nu 12 6 + 1) &&& 65535))).2)
  exact fin_l (g_sta' y11 (op := nI 231) (w := 2) (z := 1) (rel_p1 h) (by decide +kernel) (by unfold way; decide +kernel) (Or.inr rfl))
theorem op_232 {mu nu : Mu} (h : Rel mu nu) : OPS 232 mu nu := by
  unfold OPS
  rw [act_14 (by decide) (by decide) (by decide)]
  rw [md_i8 (by decide) (by decide)]
  show Rel (F_Pr_doWithOperand_12 (nI 232) (F_Pr_operandAddress (nI 232) (ps mu 9 7 ((mu 9 7 + 1) &&& 65535))).1 0 (F_Pr_operandAddress (nI 232) (ps mu 9 7 ((mu 9 7 + 1) &&& 65535))).2) (F_Md_instruction_100 (nu 12 6) (F_Md_worksOnTwo_23 8 2 1 (ps nu 12 6 ((nu 12 6 + 1) &&& 65535))).1 (F_Md_worksOnTwo_23 8 2 1 (ps nu 12 6 ((nu 12 6 + 1) &&& 65535))).2)
  exact fin_l (g_two' y11 (op := nI 232) (d := 8) (w := 2) (z := 1) (rel_p1 h) (by decide +kernel) (by unfold isTw; decide +kernel) (Or.inl (by unfold way; decide +kernel)) (Or.inr rfl))
theorem op_233 {mu nu : Mu} (h : Rel mu nu) : OPS 233 mu nu := by
  unfold OPS
  rw [act_14 (by decide) (by decide) (by decide)]
  rw [md_i8 (by decide) (by decide)]
  show Rel (F_Pr_doWithOperand_12 (nI 233) (F_Pr_operandAddress (nI 233) (ps mu 9 7 ((mu 9 7 + 1) &&& 65535))).1 0 (F_Pr_operandAddress (nI 233) (ps mu 9 7 ((mu 9 7 + 1) &&& 65535))).2) (F_Md_instruction_100 (nu 12 6) (F_Md_worksOnTwo_23 9 2 1 (ps nu 12 6 ((nu 12 6 + 1) &&& 65535))).1 (F_Md_worksOnTwo_23 9 2 1 (ps nu 12 6 ((nu 12 6 + 1) &&& 65535))).2)
  exact fin_l (g_two' y11 (op := nI 233) (d := 9) (w := 2) (z := 1) (rel_p1 h) (by decide +kernel) (by unfold isTw; decide +kernel) (Or.inl (by unfold way; decide +kernel)) (Or.inr rfl))
theorem op_234 {mu nu : Mu} (h : Rel mu nu) : OPS 234 mu nu := by
  unfold OPS
  rw [act_14 (by decide) (by decide) (by decide)]
  rw [md_i8 (by decide) (by decide)]
  show Rel (F_Pr_doWithOperand_12 (nI 234) (F_Pr_operandAddress (nI 234) (ps mu 9 7 ((mu 9 7 + 1) &&& 65535))).1 0 (F_Pr_operandAddress (nI 234) (ps mu 9 7 ((mu 9 7 + 1) &&& 65535))).2) (F_Md_instruction_100 (nu 12 6) (F_Md_worksOnTwo_23 10 2 1 (ps nu 12 6 ((nu 12 6 + 1) &&& 65535))).1 (F_Md_worksOnTwo_23 10 2 1 (ps nu 12 6 ((nu 12 6 + 1) &&& 65535))).2)
  exact fin_l (g_two' y11 (op := nI 234) (d := 10) (w := 2) (z := 1) (rel_p1 h) (by decide +kernel) (by unfold isTw; decide +kernel) (Or.inl (by unfold way; decide +kernel)) (Or.inr rfl))
theorem op_235 {mu nu : Mu} (h : Rel mu nu) : OPS 235 mu nu := by
  unfold OPS
  rw [act_14 (by decide) (by decide) (by decide)]
  rw [md_i8 (by decide) (by decide)]
  show Rel (F_Pr_doWithOperand_12 (nI 235) (F_Pr_operandAddress (nI 235) (ps mu 9 7 ((mu 9 7 + 1) &&& 65535))).1 0 (F_Pr_operandAddress (nI 235) (ps mu 9 7 ((mu 9 7 + 1) &&& 65535))).2) (F_Md_instruction_100 (nu 12 6) (F_Md_worksOnTwo_23 11 2 1 (ps nu 12 6 ((nu 12 6 + 1) &&& 65535))).1 (F_Md_worksOnTwo_23 11 2 1 (ps nu 12 6 ((nu 12 6 + 1) &&& 65535))).2)
  exact fin_l (g_two' y11 (op := nI 235) (d := 11) (w := 2) (z := 1) (rel_p1 h) (by decide +kernel) (by unfold isTw; decide +kernel) (Or.inl (by unfold way; decide +kernel)) (Or.inr rfl))
theorem op_236 {mu nu : Mu} (h : Rel mu nu) : OPS 236 mu nu := by
  unfold OPS
  rw [act_il (by decide) (by decide)]
  rw [md_i8 (by decide) (by decide)]
  exact fin_i (v := (nu 12 6 + 1) &&& 65535) h (by simp +decide only [F_Md_worksOnTwo_23, F_Md_withWords, F_Md_withWords_22, F_Md_withWords_48, F_Md_withWords_115, ↓reduceIte])
theorem op_237 {mu nu : Mu} (h : Rel mu nu) : OPS 237 mu nu := by
  unfold OPS
  rw [act_il (by decide) (by decide)]
  rw [md_i8 (by decide) (by decide)]
  exact fin_i (v := (nu 12 6 + 1) &&& 65535) h (by simp +decide only [F_Md_worksOnTwo_23, F_Md_withWords, F_Md_withWords_22, F_Md_withWords_48, F_Md_withWords_115, ↓reduceIte])
theorem op_238 {mu nu : Mu} (h : Rel mu nu) : OPS 238 mu nu := by
  unfold OPS
  rw [act_14 (by decide) (by decide) (by decide)]
  rw [md_i8 (by decide) (by decide)]
  show Rel (F_Pr_doWithOperand_12 (nI 238) (F_Pr_operandAddress (nI 238) (ps mu 9 7 ((mu 9 7 + 1) &&& 65535))).1 0 (F_Pr_operandAddress (nI 238) (ps mu 9 7 ((mu 9 7 + 1) &&& 65535))).2) (F_Md_instruction_100 (nu 12 6) (F_Md_worksOnTwo_23 14 2 1 (ps nu 12 6 ((nu 12 6 + 1) &&& 65535))).1 (F_Md_worksOnTwo_23 14 2 1 (ps nu 12 6 ((nu 12 6 + 1) &&& 65535))).2)
  exact fin_l (g_ldw' y11 (op := nI 238) (w := 2) (z := 1) (rel_p1 h) (by decide +kernel) (Or.inl (by unfold way; decide +kernel)) (Or.inr rfl))
theorem op_239 {mu nu : Mu} (h : Rel mu nu) : OPS 239 mu nu := by
  unfold OPS
  rw [act_14 (by decide) (by decide) (by decide)]
  rw [md_i8 (by decide) (by decide)]
  show Rel (F_Pr_doWithOperand_12 (nI 239) (F_Pr_operandAddress (nI 239) (ps mu 9 7 ((mu 9 7 + 1) &&& 65535))).1 0 (F_Pr_operandAddress (nI 239) (ps mu 9 7 ((mu 9 7 + 1) &&& 65535))).2) (F_Md_instruction_100 (nu 12 6) (F_Md_worksOnTwo_23 15 2 1 (ps nu 12 6 ((nu 12 6 + 1) &&& 65535))).1 (F_Md_worksOnTwo_23 15 2 1 (ps nu 12 6 ((nu 12 6 + 1) &&& 65535))).2)
  exact fin_l (g_stw' y11 (op := nI 239) (w := 2) (z := 1) (rel_p1 h) (by decide +kernel) (by unfold way; decide +kernel) (Or.inr rfl))
theorem op_240 {mu nu : Mu} (h : Rel mu nu) : OPS 240 mu nu := by
  unfold OPS
  rw [act_15 (by decide) (by decide) (by decide)]
  rw [md_i8 (by decide) (by decide)]
  show Rel (F_Pr_doWithOperand_12 (nI 240) (F_Pr_operandAddress (nI 240) (ps mu 9 7 ((mu 9 7 + 1) &&& 65535))).1 0 (F_Pr_operandAddress (nI 240) (ps mu 9 7 ((mu 9 7 + 1) &&& 65535))).2) (F_Md_instruction_100 (nu 12 6) (F_Md_worksOnTwo_23 0 3 1 (ps nu 12 6 ((nu 12 6 + 1) &&& 65535))).1 (F_Md_worksOnTwo_23 0 3 1 (ps nu 12 6 ((nu 12 6 + 1) &&& 65535))).2)
  exact fin_l (g_two' y11 (op := nI 240) (d := 0) (w := 3) (z := 1) (rel_p1 h) (by decide +kernel) (by unfold isTw; decide +kernel) (Or.inl (by unfold way; decide +kernel)) (Or.inr rfl))
theorem op_241 {mu nu : Mu} (h : Rel mu nu) : OPS 241 mu nu := by
  unfold OPS
  rw [act_15 (by decide) (by decide) (by decide)]
  rw [md_i8 (by decide) (by decide)]
  show Rel (F_Pr_doWithOperand_12 (nI 241) (F_Pr_operandAddress (nI 241) (ps mu 9 7 ((mu 9 7 + 1) &&& 65535))).1 0 (F_Pr_operandAddress (nI 241) (ps mu 9 7 ((mu 9 7 + 1) &&& 65535))).2) (F_Md_instruction_100 (nu 12 6) (F_Md_worksOnTwo_23 1 3 1 (ps nu 12 6 ((nu 12 6 + 1) &&& 65535))).1 (F_Md_worksOnTwo_23 1 3 1 (ps nu 12 6 ((nu 12 6 + 1) &&& 65535))).2)
  exact fin_l (g_two' y11 (op := nI 241) (d := 1) (w := 3) (z := 1) (rel_p1 h) (by decide +kernel) (by unfold isTw; decide +kernel) (Or.inl (by unfold way; decide +kernel)) (Or.inr rfl))
theorem op_242 {mu nu : Mu} (h : Rel mu nu) : OPS 242 mu nu := by
  unfold OPS
  rw [act_15 (by decide) (by decide) (by decide)]
  rw [md_i8 (by decide) (by decide)]
  show Rel (F_Pr_doWithOperand_12 (nI 242) (F_Pr_operandAddress (nI 242) (ps mu 9 7 ((mu 9 7 + 1) &&& 65535))).1 0 (F_Pr_operandAddress (nI 242) (ps mu 9 7 ((mu 9 7 + 1) &&& 65535))).2) (F_Md_instruction_100 (nu 12 6) (F_Md_worksOnTwo_23 2 3 1 (ps nu 12 6 ((nu 12 6 + 1) &&& 65535))).1 (F_Md_worksOnTwo_23 2 3 1 (ps nu 12 6 ((nu 12 6 + 1) &&& 65535))).2)
  exact fin_l (g_two' y11 (op := nI 242) (d := 2) (w := 3) (z := 1) (rel_p1 h) (by decide +kernel) (by unfold isTw; decide +kernel) (Or.inl (by unfold way; decide +kernel)) (Or.inr rfl))
theorem op_243 {mu nu : Mu} (h : Rel mu nu) : OPS 243 mu nu := by
  unfold OPS
  rw [act_il (by decide) (by decide)]
  rw [md_i8 (by decide) (by decide)]
  exact fin_i (v := (nu 12 6 + 1) &&& 65535) h (by simp +decide only [F_Md_worksOnTwo_23, F_Md_withWords, F_Md_withWords_22, F_Md_withWords_48, F_Md_withWords_115, ↓reduceIte])
theorem op_244 {mu nu : Mu} (h : Rel mu nu) : OPS 244 mu nu := by
  unfold OPS
  rw [act_15 (by decide) (by decide) (by decide)]
  rw [md_i8 (by decide) (by decide)]
  show Rel (F_Pr_doWithOperand_12 (nI 244) (F_Pr_operandAddress (nI 244) (ps mu 9 7 ((mu 9 7 + 1) &&& 65535))).1 0 (F_Pr_operandAddress (nI 244) (ps mu 9 7 ((mu 9 7 + 1) &&& 65535))).2) (F_Md_instruction_100 (nu 12 6) (F_Md_worksOnTwo_23 4 3 1 (ps nu 12 6 ((nu 12 6 + 1) &&& 65535))).1 (F_Md_worksOnTwo_23 4 3 1 (ps nu 12 6 ((nu 12 6 + 1) &&& 65535))).2)
  exact fin_l (g_two' y11 (op := nI 244) (d := 4) (w := 3) (z := 1) (rel_p1 h) (by decide +kernel) (by unfold isTw; decide +kernel) (Or.inl (by unfold way; decide +kernel)) (Or.inr rfl))
theorem op_245 {mu nu : Mu} (h : Rel mu nu) : OPS 245 mu nu := by
  unfold OPS
  rw [act_15 (by decide) (by decide) (by decide)]
  rw [md_i8 (by decide) (by decide)]
  show Rel (F_Pr_doWithOperand_12 (nI 245) (F_Pr_operandAddress (nI 245) (ps mu 9 7 ((mu 9 7 + 1) &&& 65535))).1 0 (F_Pr_operandAddress (nI 245) (ps mu 9 7 ((mu 9 7 + 1) &&& 65535))).2) (F_Md_instruction_100 (nu 12 6) (F_Md_worksOnTwo_23 5 3 1 (ps nu 12 6 ((nu 12 6 + 1) &&& 65535))).1 (F_Md_worksOnTwo_23 5 3 1 (ps nu 12 6 ((nu 12 6 + 1) &&& 65535))).2)
  exact fin_l (g_two' y11 (op := nI 245) (d := 5) (w := 3) (z := 1) (rel_p1 h) (by decide +kernel) (by unfold isTw; decide +kernel) (Or.inl (by unfold way; decide +kernel)) (Or.inr rfl))
theorem op_246 {mu nu : Mu} (h : Rel mu nu) : OPS 246 mu nu := by
  unfold OPS
  rw [act_15 (by decide) (by decide) (by decide)]
  rw [md_i8 (by decide) (by decide)]
  show Rel (F_Pr_doWithOperand_12 (nI 246) (F_Pr_operandAddress (nI 246) (ps mu 9 7 ((mu 9 7 + 1) &&& 65535))).1 0 (F_Pr_operandAddress (nI 246) (ps mu 9 7 ((mu 9 7 + 1) &&& 65535))).2) (F_Md_instruction_100 (nu 12 6) (F_Md_worksOnTwo_23 6 3 1 (ps nu 12 6 ((nu 12 6 + 1) &&& 65535))).1 (F_Md_worksOnTwo_23 6 3 1 (ps nu 12 6 ((nu 12 6 + 1) &&& 65535))).2)
  exact fin_l (g_two' y11 (op := nI 246) (d := 6) (w := 3) (z := 1) (rel_p1 h) (by decide +kernel) (by unfold isTw; decide +kernel) (Or.inl (by unfold way; decide +kernel)) (Or.inr rfl))
theorem op_247 {mu nu : Mu} (h : Rel mu nu) : OPS 247 mu nu := by
  unfold OPS
  rw [act_15 (by decide) (by decide) (by decide)]
  rw [md_i8 (by decide) (by decide)]
  show Rel (F_Pr_doWithOperand_12 (nI 247) (F_Pr_operandAddress (nI 247) (ps mu 9 7 ((mu 9 7 + 1) &&& 65535))).1 0 (F_Pr_operandAddress (nI 247) (ps mu 9 7 ((mu 9 7 + 1) &&& 65535))).2) (F_Md_instruction_100 (nu 12 6) (F_Md_worksOnTwo_23 7 3 1 (ps nu 12 6 ((nu 12 6 + 1) &&& 65535))).1 (F_Md_worksOnTwo_23 7 3 1 (ps nu 12 6 ((nu 12 6 + 1) &&& 65535))).2)
  exact fin_l (g_sta' y11 (op := nI 247) (w := 3) (z := 1) (rel_p1 h) (by decide +kernel) (by unfold way; decide +kernel) (Or.inr rfl))
theorem op_248 {mu nu : Mu} (h : Rel mu nu) : OPS 248 mu nu := by
  unfold OPS
  rw [act_15 (by decide) (by decide) (by decide)]
  rw [md_i8 (by decide) (by decide)]
  show Rel (F_Pr_doWithOperand_12 (nI 248) (F_Pr_operandAddress (nI 248) (ps mu 9 7 ((mu 9 7 + 1) &&& 65535))).1 0 (F_Pr_operandAddress (nI 248) (ps mu 9 7 ((mu 9 7 + 1) &&& 65535))).2) (F_Md_instruction_100 (nu 12 6) (F_Md_worksOnTwo_23 8 3 1 (ps nu 12 6 ((nu 12 6 + 1) &&& 65535))).1 (F_Md_worksOnTwo_23 8 3 1 (ps nu 12 6 ((nu 12 6 + 1) &&& 65535))).2)
  exact fin_l (g_two' y11 (op := nI 248) (d := 8) (w := 3) (z := 1) (rel_p1 h) (by decide +kernel) (by unfold isTw; decide +kernel) (Or.inl (by unfold way; decide +kernel)) (Or.inr rfl))
theorem op_249 {mu nu : Mu} (h : Rel mu nu) : OPS 249 mu nu := by
  unfold OPS
  rw [act_15 (by decide) (by decide) (by decide)]
  rw [md_i8 (by decide) (by decide)]
  show Rel (F_Pr_doWithOperand_12 (nI 249) (F_Pr_operandAddress (nI 249) (ps mu 9 7 ((mu 9 7 + 1) &&& 65535))).1 0 (F_Pr_operandAddress (nI 249) (ps mu 9 7 ((mu 9 7 + 1) &&& 65535))).2) (F_Md_instruction_100 (nu 12 6) (F_Md_worksOnTwo_23 9 3 1 (ps nu 12 6 ((nu 12 6 + 1) &&& 65535))).1 (F_Md_worksOnTwo_23 9 3 1 (ps nu 12 6 ((nu 12 6 + 1) &&& 65535))).2)
  exact fin_l (g_two' y11 (op := nI 249) (d := 9) (w := 3) (z := 1) (rel_p1 h) (by decide +kernel) (by unfold isTw; decide +kernel) (Or.inl (by unfold way; decide +kernel)) (Or.inr rfl))
theorem op_250 {mu nu : Mu} (h : Rel mu nu) : OPS 250 mu nu := by
  unfold OPS
  rw [act_15 (by decide) (by decide) (by decide)]
  rw [md_i8 (by decide) (by decide)]
  show Rel (F_Pr_doWithOperand_12 (nI 250) (F_Pr_operandAddress (nI 250) (ps mu 9 7 ((mu 9 7 + 1) &&& 65535))).1 0 (F_Pr_operandAddress (nI 250) (ps mu 9 7 ((mu 9 7 + 1) &&& 65535))).2) (F_Md_instruction_100 (nu 12 6) (F_Md_worksOnTwo_23 10 3 1 (ps nu 12 6 ((nu 12 6 + 1) &&& 65535))).1 (F_Md_worksOnTwo_23 10 3 1 (ps nu 12 6 ((nu 12 6 + 1) &&& 65535))).2)
  exact fin_l (g_two' y11 (op := nI 250) (d := 10) (w := 3) (z := 1) (rel_p1 h) (by decide +kernel) (by unfold isTw; decide +kernel) (Or.inl (by unfold way; decide +kernel)) (Or.inr rfl))
theorem op_251 {mu nu : Mu} (h : Rel mu nu) : OPS 251 mu nu := by
  unfold OPS
  rw [act_15 (by decide) (by decide) (by decide)]
  rw [md_i8 (by decide) (by decide)]
  show Rel (F_Pr_doWithOperand_12 (nI 251) (F_Pr_operandAddress (nI 251) (ps mu 9 7 ((mu 9 7 + 1) &&& 65535))).1 0 (F_Pr_operandAddress (nI 251) (ps mu 9 7 ((mu 9 7 + 1) &&& 65535))).2) (F_Md_instruction_100 (nu 12 6) (F_Md_worksOnTwo_23 11 3 1 (ps nu 12 6 ((nu 12 6 + 1) &&& 65535))).1 (F_Md_worksOnTwo_23 11 3 1 (ps nu 12 6 ((nu 12 6 + 1) &&& 65535))).2)
  exact fin_l (g_two' y11 (op := nI 251) (d := 11) (w := 3) (z := 1) (rel_p1 h) (by decide +kernel) (by unfold isTw; decide +kernel) (Or.inl (by unfold way; decide +kernel)) (Or.inr rfl))
theorem op_252 {mu nu : Mu} (h : Rel mu nu) : OPS 252 mu nu := by
  unfold OPS
  rw [act_il (by decide) (by decide)]
  rw [md_i8 (by decide) (by decide)]
  exact fin_i (v := (nu 12 6 + 1) &&& 65535) h (by simp +decide only [F_Md_worksOnTwo_23, F_Md_withWords, F_Md_withWords_22, F_Md_withWords_48, F_Md_withWords_115, ↓reduceIte])
theorem op_253 {mu nu : Mu} (h : Rel mu nu) : OPS 253 mu nu := by
  unfold OPS
  rw [act_il (by decide) (by decide)]
  rw [md_i8 (by decide) (by decide)]
  exact fin_i (v := (nu 12 6 + 1) &&& 65535) h (by simp +decide only [F_Md_worksOnTwo_23, F_Md_withWords, F_Md_withWords_22, F_Md_withWords_48, F_Md_withWords_115, ↓reduceIte])
theorem op_254 {mu nu : Mu} (h : Rel mu nu) : OPS 254 mu nu := by
  unfold OPS
  rw [act_15 (by decide) (by decide) (by decide)]
  rw [md_i8 (by decide) (by decide)]
  show Rel (F_Pr_doWithOperand_12 (nI 254) (F_Pr_operandAddress (nI 254) (ps mu 9 7 ((mu 9 7 + 1) &&& 65535))).1 0 (F_Pr_operandAddress (nI 254) (ps mu 9 7 ((mu 9 7 + 1) &&& 65535))).2) (F_Md_instruction_100 (nu 12 6) (F_Md_worksOnTwo_23 14 3 1 (ps nu 12 6 ((nu 12 6 + 1) &&& 65535))).1 (F_Md_worksOnTwo_23 14 3 1 (ps nu 12 6 ((nu 12 6 + 1) &&& 65535))).2)
  exact fin_l (g_ldw' y11 (op := nI 254) (w := 3) (z := 1) (rel_p1 h) (by decide +kernel) (Or.inl (by unfold way; decide +kernel)) (Or.inr rfl))
theorem op_255 {mu nu : Mu} (h : Rel mu nu) : OPS 255 mu nu := by
  unfold OPS
  rw [act_15 (by decide) (by decide) (by decide)]
  rw [md_i8 (by decide) (by decide)]
  show Rel (F_Pr_doWithOperand_12 (nI 255) (F_Pr_operandAddress (nI 255) (ps mu 9 7 ((mu 9 7 + 1) &&& 65535))).1 0 (F_Pr_operandAddress (nI 255) (ps mu 9 7 ((mu 9 7 + 1) &&& 65535))).2) (F_Md_instruction_100 (nu 12 6) (F_Md_worksOnTwo_23 15 3 1 (ps nu 12 6 ((nu 12 6 + 1) &&& 65535))).1 (F_Md_worksOnTwo_23 15 3 1 (ps nu 12 6 ((nu 12 6 + 1) &&& 65535))).2)
  exact fin_l (g_stw' y11 (op := nI 255) (w := 3) (z := 1) (rel_p1 h) (by decide +kernel) (by unfold way; decide +kernel) (Or.inr rfl))
