theorem op_192 {mu nu : Mu} (h : Rel mu nu) : OPS 192 mu nu := by
  unfold OPS
  rw [act_12 (by decide) (by decide) (by decide)]
  rw [md_i8 (by decide) (by decide)]
  show Rel (F_Pr_doWithOperand_12 (nI 192) (F_Pr_operandAddress (nI 192) (ps mu 9 7 ((mu 9 7 + 1) &&& 65535))).1 0 (F_Pr_operandAddress (nI 192) (ps mu 9 7 ((mu 9 7 + 1) &&& 65535))).2) (F_Md_instruction_100 (nu 12 6) (F_Md_worksOnTwo_23 0 0 1 (ps nu 12 6 ((nu 12 6 + 1) &&& 65535))).1 (F_Md_worksOnTwo_23 0 0 1 (ps nu 12 6 ((nu 12 6 + 1) &&& 65535))).2)
  exact fin_l (g_two' y11 (op := nI 192) (d := 0) (w := 0) (z := 1) (rel_p1 h) (by decide +kernel) (by unfold isTw; decide +kernel) (Or.inr ⟨by decide +kernel, rfl, fun m => (isz_rows 192 (by decide) : F_Pr_immediateSize (nI 192 &&& 15) m = 1)⟩) (Or.inr rfl))
theorem op_193 {mu nu : Mu} (h : Rel mu nu) : OPS 193 mu nu := by
  unfold OPS
  rw [act_12 (by decide) (by decide) (by decide)]
  rw [md_i8 (by decide) (by decide)]
  show Rel (F_Pr_doWithOperand_12 (nI 193) (F_Pr_operandAddress (nI 193) (ps mu 9 7 ((mu 9 7 + 1) &&& 65535))).1 0 (F_Pr_operandAddress (nI 193) (ps mu 9 7 ((mu 9 7 + 1) &&& 65535))).2) (F_Md_instruction_100 (nu 12 6) (F_Md_worksOnTwo_23 1 0 1 (ps nu 12 6 ((nu 12 6 + 1) &&& 65535))).1 (F_Md_worksOnTwo_23 1 0 1 (ps nu 12 6 ((nu 12 6 + 1) &&& 65535))).2)
  exact fin_l (g_two' y11 (op := nI 193) (d := 1) (w := 0) (z := 1) (rel_p1 h) (by decide +kernel) (by unfold isTw; decide +kernel) (Or.inr ⟨by decide +kernel, rfl, fun m => (isz_rows 193 (by decide) : F_Pr_immediateSize (nI 193 &&& 15) m = 1)⟩) (Or.inr rfl))
theorem op_194 {mu nu : Mu} (h : Rel mu nu) : OPS 194 mu nu := by
  unfold OPS
  rw [act_12 (by decide) (by decide) (by decide)]
  rw [md_i8 (by decide) (by decide)]
  show Rel (F_Pr_doWithOperand_12 (nI 194) (F_Pr_operandAddress (nI 194) (ps mu 9 7 ((mu 9 7 + 1) &&& 65535))).1 0 (F_Pr_operandAddress (nI 194) (ps mu 9 7 ((mu 9 7 + 1) &&& 65535))).2) (F_Md_instruction_100 (nu 12 6) (F_Md_worksOnTwo_23 2 0 1 (ps nu 12 6 ((nu 12 6 + 1) &&& 65535))).1 (F_Md_worksOnTwo_23 2 0 1 (ps nu 12 6 ((nu 12 6 + 1) &&& 65535))).2)
  exact fin_l (g_two' y11 (op := nI 194) (d := 2) (w := 0) (z := 1) (rel_p1 h) (by decide +kernel) (by unfold isTw; decide +kernel) (Or.inr ⟨by decide +kernel, rfl, fun m => (isz_rows 194 (by decide) : F_Pr_immediateSize (nI 194 &&& 15) m = 1)⟩) (Or.inr rfl))
theorem op_195 {mu nu : Mu} (h : Rel mu nu) : OPS 195 mu nu := by
  unfold OPS
  rw [act_il (by decide) (by decide)]
  rw [md_i8 (by decide) (by decide)]
  exact fin_i (v := (nu 12 6 + 1) &&& 65535) h (by simp +decide only [F_Md_worksOnTwo_23, F_Md_withWords, F_Md_withWords_22, F_Md_withWords_48, F_Md_withWords_115, ↓reduceIte])
theorem op_196 {mu nu : Mu} (h : Rel mu nu) : OPS 196 mu nu := by
  unfold OPS
  rw [act_12 (by decide) (by decide) (by decide)]
  rw [md_i8 (by decide) (by decide)]
  show Rel (F_Pr_doWithOperand_12 (nI 196) (F_Pr_operandAddress (nI 196) (ps mu 9 7 ((mu 9 7 + 1) &&& 65535))).1 0 (F_Pr_operandAddress (nI 196) (ps mu 9 7 ((mu 9 7 + 1) &&& 65535))).2) (F_Md_instruction_100 (nu 12 6) (F_Md_worksOnTwo_23 4 0 1 (ps nu 12 6 ((nu 12 6 + 1) &&& 65535))).1 (F_Md_worksOnTwo_23 4 0 1 (ps nu 12 6 ((nu 12 6 + 1) &&& 65535))).2)
  exact fin_l (g_two' y11 (op := nI 196) (d := 4) (w := 0) (z := 1) (rel_p1 h) (by decide +kernel) (by unfold isTw; decide +kernel) (Or.inr ⟨by decide +kernel, rfl, fun m => (isz_rows 196 (by decide) : F_Pr_immediateSize (nI 196 &&& 15) m = 1)⟩) (Or.inr rfl))
theorem op_197 {mu nu : Mu} (h : Rel mu nu) : OPS 197 mu nu := by
  unfold OPS
  rw [act_12 (by decide) (by decide) (by decide)]
  rw [md_i8 (by decide) (by decide)]
  show Rel (F_Pr_doWithOperand_12 (nI 197) (F_Pr_operandAddress (nI 197) (ps mu 9 7 ((mu 9 7 + 1) &&& 65535))).1 0 (F_Pr_operandAddress (nI 197) (ps mu 9 7 ((mu 9 7 + 1) &&& 65535))).2) (F_Md_instruction_100 (nu 12 6) (F_Md_worksOnTwo_23 5 0 1 (ps nu 12 6 ((nu 12 6 + 1) &&& 65535))).1 (F_Md_worksOnTwo_23 5 0 1 (ps nu 12 6 ((nu 12 6 + 1) &&& 65535))).2)
  exact fin_l (g_two' y11 (op := nI 197) (d := 5) (w := 0) (z := 1) (rel_p1 h) (by decide +kernel) (by unfold isTw; decide +kernel) (Or.inr ⟨by decide +kernel, rfl, fun m => (isz_rows 197 (by decide) : F_Pr_immediateSize (nI 197 &&& 15) m = 1)⟩) (Or.inr rfl))
theorem op_198 {mu nu : Mu} (h : Rel mu nu) : OPS 198 mu nu := by
  unfold OPS
  rw [act_12 (by decide) (by decide) (by decide)]
  rw [md_i8 (by decide) (by decide)]
  show Rel (F_Pr_doWithOperand_12 (nI 198) (F_Pr_operandAddress (nI 198) (ps mu 9 7 ((mu 9 7 + 1) &&& 65535))).1 0 (F_Pr_operandAddress (nI 198) (ps mu 9 7 ((mu 9 7 + 1) &&& 65535))).2) (F_Md_instruction_100 (nu 12 6) (F_Md_worksOnTwo_23 6 0 1 (ps nu 12 6 ((nu 12 6 + 1) &&& 65535))).1 (F_Md_worksOnTwo_23 6 0 1 (ps nu 12 6 ((nu 12 6 + 1) &&& 65535))).2)
  exact fin_l (g_two' y11 (op := nI 198) (d := 6) (w := 0) (z := 1) (rel_p1 h) (by decide +kernel) (by unfold isTw; decide +kernel) (Or.inr ⟨by decide +kernel, rfl, fun m => (isz_rows 198 (by decide) : F_Pr_immediateSize (nI 198 &&& 15) m = 1)⟩) (Or.inr rfl))
theorem op_199 {mu nu : Mu} (h : Rel mu nu) : OPS 199 mu nu := by
  unfold OPS
  rw [act_il (by decide) (by decide)]
  rw [md_i8 (by decide) (by decide)]
  exact fin_i (v := (nu 12 6 + 1) &&& 65535) h (by simp +decide only [F_Md_worksOnTwo_23, F_Md_withWords, F_Md_withWords_22, F_Md_withWords_48, F_Md_withWords_115, ↓reduceIte])
theorem op_200 {mu nu : Mu} (h : Rel mu nu) : OPS 200 mu nu := by
  unfold OPS
  rw [act_12 (by decide) (by decide) (by decide)]
  rw [md_i8 (by decide) (by decide)]
  show Rel (F_Pr_doWithOperand_12 (nI 200) (F_Pr_operandAddress (nI 200) (ps mu 9 7 ((mu 9 7 + 1) &&& 65535))).1 0 (F_Pr_operandAddress (nI 200) (ps mu 9 7 ((mu 9 7 + 1) &&& 65535))).2) (F_Md_instruction_100 (nu 12 6) (F_Md_worksOnTwo_23 8 0 1 (ps nu 12 6 ((nu 12 6 + 1) &&& 65535))).1 (F_Md_worksOnTwo_23 8 0 1 (ps nu 12 6 ((nu 12 6 + 1) &&& 65535))).2)
  exact fin_l (g_two' y11 (op := nI 200) (d := 8) (w := 0) (z := 1) (rel_p1 h) (by decide +kernel) (by unfold isTw; decide +kernel) (Or.inr ⟨by decide +kernel, rfl, fun m => (isz_rows 200 (by decide) : F_Pr_immediateSize (nI 200 &&& 15) m = 1)⟩) (Or.inr rfl))
theorem op_201 {mu nu : Mu} (h : Rel mu nu) : OPS 201 mu nu := by
  unfold OPS
  rw [act_12 (by decide) (by decide) (by decide)]
  rw [md_i8 (by decide) (by decide)]
  show Rel (F_Pr_doWithOperand_12 (nI 201) (F_Pr_operandAddress (nI 201) (ps mu 9 7 ((mu 9 7 + 1) &&& 65535))).1 0 (F_Pr_operandAddress (nI 201) (ps mu 9 7 ((mu 9 7 + 1) &&& 65535))).2) (F_Md_instruction_100 (nu 12 6) (F_Md_worksOnTwo_23 9 0 1 (ps nu 12 6 ((nu 12 6 + 1) &&& 65535))).1 (F_Md_worksOnTwo_23 9 0 1 (ps nu 12 6 ((nu 12 6 + 1) &&& 65535))).2)
  exact fin_l (g_two' y11 (op := nI 201) (d := 9) (w := 0) (z := 1) (rel_p1 h) (by decide +kernel) (by unfold isTw; decide +kernel) (Or.inr ⟨by decide +kernel, rfl, fun m => (isz_rows 201 (by decide) : F_Pr_immediateSize (nI 201 &&& 15) m = 1)⟩) (Or.inr rfl))
theorem op_202 {mu nu : Mu} (h : Rel mu nu) : OPS 202 mu nu := by
  unfold OPS
  rw [act_12 (by decide) (by decide) (by decide)]
  rw [md_i8 (by decide) (by decide)]
  show Rel (F_Pr_doWithOperand_12 (nI 202) (F_Pr_operandAddress (nI 202) (ps mu 9 7 ((mu 9 7 + 1) &&& 65535))).1 0 (F_Pr_operandAddress (nI 202) (ps mu 9 7 ((mu 9 7 + 1) &&& 65535))).2) (F_Md_instruction_100 (nu 12 6) (F_Md_worksOnTwo_23 10 0 1 (ps nu 12 6 ((nu 12 6 + 1) &&& 65535))).1 (F_Md_worksOnTwo_23 10 0 1 (ps nu 12 6 ((nu 12 6 + 1) &&& 65535))).2)
  exact fin_l (g_two' y11 (op := nI 202) (d := 10) (w := 0) (z := 1) (rel_p1 h) (by decide +kernel) (by unfold isTw; decide +kernel) (Or.inr ⟨by decide +kernel, rfl, fun m => (isz_rows 202 (by decide) : F_Pr_immediateSize (nI 202 &&& 15) m = 1)⟩) (Or.inr rfl))
theorem op_203 {mu nu : Mu} (h : Rel mu nu) : OPS 203 mu nu := by
  unfold OPS
  rw [act_12 (by decide) (by decide) (by decide)]
  rw [md_i8 (by decide) (by decide)]
  show Rel (F_Pr_doWithOperand_12 (nI 203) (F_Pr_operandAddress (nI 203) (ps mu 9 7 ((mu 9 7 + 1) &&& 65535))).1 0 (F_Pr_operandAddress (nI 203) (ps mu 9 7 ((mu 9 7 + 1) &&& 65535))).2) (F_Md_instruction_100 (nu 12 6) (F_Md_worksOnTwo_23 11 0 1 (ps nu 12 6 ((nu 12 6 + 1) &&& 65535))).1 (F_Md_worksOnTwo_23 11 0 1 (ps nu 12 6 ((nu 12 6 + 1) &&& 65535))).2)
  exact fin_l (g_two' y11 (op := nI 203) (d := 11) (w := 0) (z := 1) (rel_p1 h) (by decide +kernel) (by unfold isTw; decide +kernel) (Or.inr ⟨by decide +kernel, rfl, fun m => (isz_rows 203 (by decide) : F_Pr_immediateSize (nI 203 &&& 15) m = 1)⟩) (Or.inr rfl))
theorem op_204 {mu nu : Mu} (h : Rel mu nu) : OPS 204 mu nu := by
  unfold OPS
  rw [act_il (by decide) (by decide)]
  rw [md_i8 (by decide) (by decide)]
  exact fin_i (v := (nu 12 6 + 1) &&& 65535) h (by simp +decide only [F_Md_worksOnTwo_23, F_Md_withWords, F_Md_withWords_22, F_Md_withWords_48, F_Md_withWords_115, ↓reduceIte])
theorem op_205 {mu nu : Mu} (h : Rel mu nu) : OPS 205 mu nu := by
  unfold OPS
  rw [act_il (by decide) (by decide)]
  rw [md_i8 (by decide) (by decide)]
  exact fin_i (v := (nu 12 6 + 1) &&& 65535) h (by simp +decide only [F_Md_worksOnTwo_23, F_Md_withWords, F_Md_withWords_22, F_Md_withWords_48, F_Md_withWords_115, ↓reduceIte])
theorem op_206 {mu nu : Mu} (h : Rel mu nu) : OPS 206 mu nu := by
  unfold OPS
  rw [act_12 (by decide) (by decide) (by decide)]
  rw [md_i8 (by decide) (by decide)]
  show Rel (F_Pr_doWithOperand_12 (nI 206) (F_Pr_operandAddress (nI 206) (ps mu 9 7 ((mu 9 7 + 1) &&& 65535))).1 0 (F_Pr_operandAddress (nI 206) (ps mu 9 7 ((mu 9 7 + 1) &&& 65535))).2) (F_Md_instruction_100 (nu 12 6) (F_Md_worksOnTwo_23 14 0 1 (ps nu 12 6 ((nu 12 6 + 1) &&& 65535))).1 (F_Md_worksOnTwo_23 14 0 1 (ps nu 12 6 ((nu 12 6 + 1) &&& 65535))).2)
  exact fin_l (g_ldw' y11 (op := nI 206) (w := 0) (z := 1) (rel_p1 h) (by decide +kernel) (Or.inr ⟨by decide +kernel, rfl, fun m => (isz_rows 206 (by decide) : F_Pr_immediateSize (nI 206 &&& 15) m = 2)⟩) (Or.inr rfl))
theorem op_207 {mu nu : Mu} (h : Rel mu nu) : OPS 207 mu nu := by
  unfold OPS
  rw [act_il (by decide) (by decide)]
  rw [md_i8 (by decide) (by decide)]
  exact fin_i (v := (nu 12 6 + 1) &&& 65535) h (by simp +decide only [F_Md_worksOnTwo_23, F_Md_withWords, F_Md_withWords_22, F_Md_withWords_48, F_Md_withWords_115, ↓reduceIte])
theorem op_208 {mu nu : Mu} (h : Rel mu nu) : OPS 208 mu nu := by
  unfold OPS
  rw [act_13 (by decide) (by decide) (by decide)]
  rw [md_i8 (by decide) (by decide)]
  show Rel (F_Pr_doWithOperand_12 (nI 208) (F_Pr_operandAddress (nI 208) (ps mu 9 7 ((mu 9 7 + 1) &&& 65535))).1 0 (F_Pr_operandAddress (nI 208) (ps mu 9 7 ((mu 9 7 + 1) &&& 65535))).2) (F_Md_instruction_100 (nu 12 6) (F_Md_worksOnTwo_23 0 1 1 (ps nu 12 6 ((nu 12 6 + 1) &&& 65535))).1 (F_Md_worksOnTwo_23 0 1 1 (ps nu 12 6 ((nu 12 6 + 1) &&& 65535))).2)
  exact fin_l (g_two' y11 (op := nI 208) (d := 0) (w := 1) (z := 1) (rel_p1 h) (by decide +kernel) (by unfold isTw; decide +kernel) (Or.inl (by unfold way; decide +kernel)) (Or.inr rfl))
theorem op_209 {mu nu : Mu} (h : Rel mu nu) : OPS 209 mu nu := by
  unfold OPS
  rw [act_13 (by decide) (by decide) (by decide)]
  rw [md_i8 (by decide) (by decide)]
  show Rel (F_Pr_doWithOperand_12 (nI 209) (F_Pr_operandAddress (nI 209) (ps mu 9 7 ((mu 9 7 + 1) &&& 65535))).1 0 (F_Pr_operandAddress (nI 209) (ps mu 9 7 ((mu 9 7 + 1) &&& 65535))).2) (F_Md_instruction_100 (nu 12 6) (F_Md_worksOnTwo_23 1 1 1 (ps nu 12 6 ((nu 12 6 + 1) &&& 65535))).1 (F_Md_worksOnTwo_23 1 1 1 (ps nu 12 6 ((nu 12 6 + 1) &&& 65535))).2)
  exact fin_l (g_two' y11 (op := nI 209) (d := 1) (w := 1) (z := 1) (rel_p1 h) (by decide +kernel) (by unfold isTw; decide +kernel) (Or.inl (by unfold way; decide +kernel)) (Or.inr rfl))
theorem op_210 {mu nu : Mu} (h : Rel mu nu) : OPS 210 mu nu := by
  unfold OPS
  rw [act_13 (by decide) (by decide) (by decide)]
  rw [md_i8 (by decide) (by decide)]
  show Rel (F_Pr_doWithOperand_12 (nI 210) (F_Pr_operandAddress (nI 210) (ps mu 9 7 ((mu 9 7 + 1) &&& 65535))).1 0 (F_Pr_operandAddress (nI 210) (ps mu 9 7 ((mu 9 7 + 1) &&& 65535))).2) (F_Md_instruction_100 (nu 12 6) (F_Md_worksOnTwo_23 2 1 1 (ps nu 12 6 ((nu 12 6 + 1) &&& 65535))).1 (F_Md_worksOnTwo_23 2 1 1 (ps nu 12 6 ((nu 12 6 + 1) &&& 65535))).2)
  exact fin_l (g_two' y11 (op := nI 210) (d := 2) (w := 1) (z := 1) (rel_p1 h) (by decide +kernel) (by unfold isTw; decide +kernel) (Or.inl (by unfold way; decide +kernel)) (Or.inr rfl))
theorem op_211 {mu nu : Mu} (h : Rel mu nu) : OPS 211 mu nu := by
  unfold OPS
  rw [act_il (by decide) (by decide)]
  rw [md_i8 (by decide) (by decide)]
  exact fin_i (v := (nu 12 6 + 1) &&& 65535) h (by simp +decide only [F_Md_worksOnTwo_23, F_Md_withWords, F_Md_withWords_22, F_Md_withWords_48, F_Md_withWords_115, ↓reduceIte])
theorem op_212 {mu nu : Mu} (h : Rel mu nu) : OPS 212 mu nu := by
  unfold OPS
  rw [act_13 (by decide) (by decide) (by decide)]
  rw [md_i8 (by decide) (by decide)]
  show Rel (F_Pr_doWithOperand_12 (nI 212) (F_Pr_operandAddress (nI 212) (ps mu 9 7 ((mu 9 7 + 1) &&& 65535))).1 0 (F_Pr_operandAddress (nI 212) (ps mu 9 7 ((mu 9 7 + 1) &&& 65535))).2) (F_Md_instruction_100 (nu 12 6) (F_Md_worksOnTwo_23 4 1 1 (ps nu 12 6 ((nu 12 6 + 1) &&& 65535))).1 (F_Md_worksOnTwo_23 4 1 1 (ps nu 12 6 ((nu 12 6 + 1) &&& 65535))).2)
  exact fin_l (g_two' y11 (op := nI 212) (d := 4) (w := 1) (z := 1) (rel_p1 h) (by decide +kernel) (by unfold isTw; decide +kernel) (Or.inl (by unfold way; decide +kernel)) (Or.inr rfl))
theorem op_213 {mu nu : Mu} (h : Rel mu nu) : OPS 213 mu nu := by
  unfold OPS
  rw [act_13 (by decide) (by decide) (by decide)]
  rw [md_i8 (by decide) (by decide)]
  show Rel (F_Pr_doWithOperand_12 (nI 213) (F_Pr_operandAddress (nI 213) (ps mu 9 7 ((mu 9 7 + 1) &&& 65535))).1 0 (F_Pr_operandAddress (nI 213) (ps mu 9 7 ((mu 9 7 + 1) &&& 65535))).2) (F_Md_instruction_100 (nu 12 6) (F_Md_worksOnTwo_23 5 1 1 (ps nu 12 6 ((nu 12 6 + 1) &&& 65535))).1 (F_Md_worksOnTwo_23 5 1 1 (ps nu 12 6 ((nu 12 6 + 1) &&& 65535))).2)
  exact fin_l (g_two' y11 (op := nI 213) (d := 5) (w := 1) (z := 1) (rel_p1 h) (by decide +kernel) (by unfold isTw; decide +kernel) (Or.inl (by unfold way; decide +kernel)) (Or.inr rfl))
theorem op_214 {mu nu : Mu} (h : Rel mu nu) : OPS 214 mu nu := by
  unfold OPS
  rw [act_13 (by decide) (by decide) (by decide)]
  rw [md_i8 (by decide) (by decide)]
  show Rel (F_Pr_doWithOperand_12 (nI 214) (F_Pr_operandAddress (nI 214) (ps mu 9 7 ((mu 9 7 + 1) &&& 65535))).1 0 (F_Pr_operandAddress (nI 214) (ps mu 9 7 ((mu 9 7 + 1) &&& 65535))).2) (F_Md_instruction_100 (nu 12 6) (F_Md_worksOnTwo_23 6 1 1 (ps nu 12 6 ((nu 12 6 + 1) &&& 65535))).1 (F_Md_worksOnTwo_23 6 1 1 (ps nu 12 6 ((nu 12 6 + 1) &&& 65535))).2)
  exact fin_l (g_two' y11 (op := nI 214) (d := 6) (w := 1) (z := 1) (rel_p1 h) (by decide +kernel) (by unfold isTw; decide +kernel) (Or.inl (by unfold way; decide +kernel)) (Or.inr rfl))
theorem op_215 {mu nu : Mu} (h : Rel mu nu) : OPS 215 mu nu := by
  unfold OPS
  rw [act_13 (by decide) (by decide) (by decide)]
  rw [md_i8 (by decide) (by decide)]
  show Rel (F_Pr_doWithOperand_12 (nI 215) (F_Pr_operandAddress (nI 215) (ps mu 9 7 ((mu 9 7 + 1) &&& 65535))).1 0 (F_Pr_operandAddress (nI 215) (ps mu 9 7 ((mu 9 7 + 1) &&& 65535))).2) (F_Md_instruction_100 (nu 12 6) (F_Md_worksOnTwo_23 7 1 1 (ps nu 12 6 ((nu 12 6 + 1) &&& 65535))).1 (F_Md_worksOnTwo_23 7 1 1 (ps nu 12 6 ((nu 12 6 + 1) &&& 65535))).2)
  exact fin_l (g_sta' y11 (op := nI 215) (w := 1) (z := 1) (rel_p1 h) (by decide +kernel) (by unfold way; decide +kernel) (Or.inr rfl))
theorem op_216 {mu nu : Mu} (h : Rel mu nu) : OPS 216 mu nu := by
  unfold OPS
  rw [act_13 (by decide) (by decide) (by decide)]
  rw [md_i8 (by decide) (by decide)]
  show Rel (F_Pr_doWithOperand_12 (nI 216) (F_Pr_operandAddress (nI 216) (ps mu 9 7 ((mu 9 7 + 1) &&& 65535))).1 0 (F_Pr_operandAddress (nI 216) (ps mu 9 7 ((mu 9 7 + 1) &&& 65535))).2) (F_Md_instruction_100 (nu 12 6) (F_Md_worksOnTwo_23 8 1 1 (ps nu 12 6 ((nu 12 6 + 1) &&& 65535))).1 (F_Md_worksOnTwo_23 8 1 1 (ps nu 12 6 ((nu 12 6 + 1) &&& 65535))).2)
  exact fin_l (g_two' y11 (op := nI 216) (d := 8) (w := 1) (z := 1) (rel_p1 h) (by decide +kernel) (by unfold isTw; decide +kernel) (Or.inl (by unfold way; decide +kernel)) (Or.inr rfl))
theorem op_217 {mu nu : Mu} (h : Rel mu nu) : OPS 217 mu nu := by
  unfold OPS
  rw [act_13 (by decide) (by decide) (by decide)]
  rw [md_i8 (by decide) (by decide)]
  show Rel (F_Pr_doWithOperand_12 (nI 217) (F_Pr_operandAddress (nI 217) (ps mu 9 7 ((mu 9 7 + 1) &&& 65535))).1 0 (F_Pr_operandAddress (nI 217) (ps mu 9 7 ((mu 9 7 + 1) &&& 65535))).2) (F_Md_instruction_100 (nu 12 6) (F_Md_worksOnTwo_23 9 1 1 (ps nu 12 6 ((nu 12 6 + 1) &&& 65535))).1 (F_Md_worksOnTwo_23 9 1 1 (ps nu 12 6 ((nu 12 6 + 1) &&& 65535))).2)
  exact fin_l (g_two' y11 (op := nI 217) (d := 9) (w := 1) (z := 1) (rel_p1 h) (by decide +kernel) (by unfold isTw; decide +kernel) (Or.inl (by unfold way; decide +kernel)) (Or.inr rfl))
theorem op_218 {mu nu : Mu} (h : Rel mu nu) : OPS 218 mu nu := by
  unfold OPS
  rw [act_13 (by decide) (by decide) (by decide)]
  rw [md_i8 (by decide) (by decide)]
  show Rel (F_Pr_doWithOperand_12 (nI 218) (F_Pr_operandAddress (nI 218) (ps mu 9 7 ((mu 9 7 + 1) &&& 65535))).1 0 (F_Pr_operandAddress (nI 218) (ps mu 9 7 ((mu 9 7 + 1) &&& 65535))).2) (F_Md_instruction_100 (nu 12 6) (F_Md_worksOnTwo_23 10 1 1 (ps nu 12 6 ((nu 12 6 + 1) &&& 65535))).1 (F_Md_worksOnTwo_23 10 1 1 (ps nu 12 6 ((nu 12 6 + 1) &&& 65535))).2)
  exact fin_l (g_two' y11 (op := nI 218) (d := 10) (w := 1) (z := 1) (rel_p1 h) (by decide +kernel) (by unfold isTw; decide +kernel) (Or.inl (by unfold way; decide +kernel)) (Or.inr rfl))
theorem op_219 {mu nu : Mu} (h : Rel mu nu) : OPS 219 mu nu := by
  unfold OPS
  rw [act_13 (by decide) (by decide) (by decide)]
  rw [md_i8 (by decide) (by decide)]
  show Rel (F_Pr_doWithOperand_12 (nI 219) (F_Pr_operandAddress (nI 219) (ps mu 9 7 ((mu 9 7 + 1) &&& 65535))).1 0 (F_Pr_operandAddress (nI 219) (ps mu 9 7 ((mu 9 7 + 1) &&& 65535))).2) (F_Md_instruction_100 (nu 12 6) (F_Md_worksOnTwo_23 11 1 1 (ps nu 12 6 ((nu 12 6 + 1) &&& 65535))).1 (F_Md_worksOnTwo_23 11 1 1 (ps nu 12 6 ((nu 12 6 + 1) &&& 65535))).2)
  exact fin_l (g_two' y11 (op := nI 219) (d := 11) (w := 1) (z := 1) (rel_p1 h) (by decide +kernel) (by unfold isTw; decide +kernel) (Or.inl (by unfold way; decide +kernel)) (Or.inr rfl))
theorem op_220 {mu nu : Mu} (h : Rel mu nu) : OPS 220 mu nu := by
  unfold OPS
  rw [act_il (by decide) (by decide)]
  rw [md_i8 (by decide) (by decide)]
  exact fin_i (v := (nu 12 6 + 1) &&& 65535) h (by simp +decide only [F_Md_worksOnTwo_23, F_Md_withWords, F_Md_withWords_22, F_Md_withWords_48, F_Md_withWords_115, ↓reduceIte])
theorem op_221 {mu nu : Mu} (h : Rel mu nu) : OPS 221 mu nu := by
  unfold OPS
  rw [act_il (by decide) (by decide)]
  rw [md_i8 (by decide) (by decide)]
  exact fin_i (v := (nu 12 6 + 1) &&& 65535) h (by simp +decide only [F_Md_worksOnTwo_23, F_Md_withWords, F_Md_withWords_22, F_Md_withWords_48, F_Md_withWords_115, ↓reduceIte])
theorem op_222 {mu nu : Mu} (h : Rel mu nu) : OPS 222 mu nu := by
  unfold OPS
  rw [act_13 (by decide) (by decide) (by decide)]
  rw [md_i8 (by decide) (by decide)]
  show Rel (F_Pr_doWithOperand_12 (nI 222) (F_Pr_operandAddress (nI 222) (ps mu 9 7 ((mu 9 7 + 1) &&& 65535))).1 0 (F_Pr_operandAddress (nI 222) (ps mu 9 7 ((mu 9 7 + 1) &&& 65535))).2) (F_Md_instruction_100 (nu 12 6) (F_Md_worksOnTwo_23 14 1 1 (ps nu 12 6 ((nu 12 6 + 1) &&& 65535))).1 (F_Md_worksOnTwo_23 14 1 1 (ps nu 12 6 ((nu 12 6 + 1) &&& 65535))).2)
  exact fin_l (g_ldw' y11 (op := nI 222) (w := 1) (z := 1) (rel_p1 h) (by decide +kernel) (Or.inl (by unfold way; decide +kernel)) (Or.inr rfl))
theorem op_223 {mu nu : Mu} (h : Rel mu nu) : OPS 223 mu nu := by
  unfold OPS
  rw [act_13 (by decide) (by decide) (by decide)]
  rw [md_i8 (by decide) (by decide)]
  show Rel (F_Pr_doWithOperand_12 (nI 223) (F_Pr_operandAddress (nI 223) (ps mu 9 7 ((mu 9 7 + 1) &&& 65535))).1 0 (F_Pr_operandAddress (nI 223) (ps mu 9 7 ((mu 9 7 + 1) &&& 65535))).2) (F_Md_instruction_100 (nu 12 6) (F_Md_worksOnTwo_23 15 1 1 (ps nu 12 6 ((nu 12 6 + 1) &&& 65535))).1 (F_Md_worksOnTwo_23 15 1 1 (ps nu 12 6 ((nu 12 6 + 1) &&& 65535))).2)
  exact fin_l (g_stw' y11 (op := nI 223) (w := 1) (z := 1) (rel_p1 h) (by decide +kernel) (by unfold way; decide +kernel) (Or.inr rfl))
