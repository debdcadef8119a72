/-! an instruction by its byte -/
def legB (j : Nat) : Bool := (([65474, 2755, 65533, 51967, 47065, 47065, 63449, 63449, 32631, 57335, 65527, 65527, 20343, 53239, 53239, 53239] : List Nat).getD (j / 16) 0).testBit (j % 16)
theorem lg_rows : ∀ j, j < 256 → F_Pr_isLegal (nI j) (fun _ _ => 0) = (if legB j = true then 1 else 0) := by decide +kernel
theorem lg_c (x : Int32) (mu : Mu) : F_Pr_isLegal x mu = F_Pr_isLegal x (fun _ _ => 0) := rfl
theorem nb_rows : ∀ j, j < 256 → nI j >>> ((4 : Int32) &&& 31) = nI (j / 16) ∧ nI j &&& 15 = nI (j % 16) ∧ (nI j >>> ((4 : Int32) &&& 31)) &&& 3 = nI (j / 16 % 4) := by decide +kernel
def OPS (j : Nat) (mu nu : Mu) : Prop := Rel (F_Pr_act_40 (nI j) mu) (F_Md_instruction_9 (nu 12 6) (nI j) (ps nu 12 6 ((nu 12 6 + 1) &&& 65535)))
theorem rel_p1 {mu nu : Mu} (h : Rel mu nu) : Rel (ps mu 9 7 ((mu 9 7 + 1) &&& 65535)) (ps nu 12 6 ((nu 12 6 + 1) &&& 65535)) := by
  rw [← h.1.2.2.2.2.1.1]; exact rel_p h (bW_and _)
theorem fin_l {c : Mu} {r : Int32 × Mu} {f : Int32} (g : GG c r) : Rel c (F_Md_instruction_100 f r.1 r.2) := by
  unfold F_Md_instruction_100; rw [g.1, if_neg (show ¬ (1 : Int32) = 0 by decide)]; exact g.2
theorem fin_i {mu nu : Mu} {v : Int32} {r : Int32 × Mu} (h : Rel mu nu) (e : r = (0, ps nu 12 6 v)) : Rel (ps mu 9 9 1) (F_Md_instruction_100 (nu 12 6) r.1 r.2) := by
  rw [e]; unfold F_Md_instruction_100
  show Rel _ (if (0 : Int32) = 0 then _ else _)
  rw [if_pos rfl, ps_ps, ps_id]; exact rel_t h
theorem act_il {j : Nat} (hj : j < 256) (hl : legB j = false) (mu : Mu) : F_Pr_act_40 (nI j) mu = ps mu 9 9 1 := by
  unfold F_Pr_act_40; rw [lg_c, lg_rows j hj, hl]; simp +decide only [↓reduceIte]
theorem act_0 {j : Nat} (hj : j < 256) (hl : legB j = true) (ht : j / 16 = 0) (mu : Mu) : F_Pr_act_40 (nI j) mu = F_Pr_doFlagsAndIndex (nI j) (ps mu 9 7 ((mu 9 7 + 1) &&& 65535)) := by
  unfold F_Pr_act_40; rw [lg_c, lg_rows j hj, hl, (nb_rows j hj).1, ht]; simp +decide only [↓reduceIte]
theorem act_1 {j : Nat} (hj : j < 256) (hl : legB j = true) (ht : j / 16 = 1) (mu : Mu) : F_Pr_act_40 (nI j) mu = F_Pr_doBetweenAccumulators (nI j) (ps mu 9 7 ((mu 9 7 + 1) &&& 65535)) := by
  unfold F_Pr_act_40; rw [lg_c, lg_rows j hj, hl, (nb_rows j hj).1, ht]; simp +decide only [↓reduceIte]
theorem act_2 {j : Nat} (hj : j < 256) (hl : legB j = true) (ht : j / 16 = 2) (mu : Mu) : F_Pr_act_40 (nI j) mu = F_Pr_branch (nI j &&& 15) (ps mu 9 7 ((mu 9 7 + 1) &&& 65535)) := by
  unfold F_Pr_act_40; rw [lg_c, lg_rows j hj, hl, (nb_rows j hj).1, ht]; simp +decide only [↓reduceIte]
theorem act_3 {j : Nat} (hj : j < 256) (hl : legB j = true) (ht : j / 16 = 3) (mu : Mu) : F_Pr_act_40 (nI j) mu = F_Pr_doStack (nI j) (ps mu 9 7 ((mu 9 7 + 1) &&& 65535)) := by
  unfold F_Pr_act_40; rw [lg_c, lg_rows j hj, hl, (nb_rows j hj).1, ht]; simp +decide only [↓reduceIte]
theorem act_4 {j : Nat} (hj : j < 256) (hl : legB j = true) (ht : j / 16 = 4) (mu : Mu) : F_Pr_act_40 (nI j) mu = F_Pr_act_167 (F_Ar_changed (nI j &&& 15) ((ps mu 9 7 ((mu 9 7 + 1) &&& 65535)) 9 3) (ps mu 9 7 ((mu 9 7 + 1) &&& 65535))).1 (F_Ar_changed (nI j &&& 15) ((ps mu 9 7 ((mu 9 7 + 1) &&& 65535)) 9 3) (ps mu 9 7 ((mu 9 7 + 1) &&& 65535))).2 := by
  unfold F_Pr_act_40; rw [lg_c, lg_rows j hj, hl, (nb_rows j hj).1, ht]; simp +decide only [↓reduceIte]; rfl
theorem act_5 {j : Nat} (hj : j < 256) (hl : legB j = true) (ht : j / 16 = 5) (mu : Mu) : F_Pr_act_40 (nI j) mu = F_Pr_act_189 (F_Ar_changed (nI j &&& 15) ((ps mu 9 7 ((mu 9 7 + 1) &&& 65535)) 9 4) (ps mu 9 7 ((mu 9 7 + 1) &&& 65535))).1 (F_Ar_changed (nI j &&& 15) ((ps mu 9 7 ((mu 9 7 + 1) &&& 65535)) 9 4) (ps mu 9 7 ((mu 9 7 + 1) &&& 65535))).2 := by
  unfold F_Pr_act_40; rw [lg_c, lg_rows j hj, hl, (nb_rows j hj).1, ht]; simp +decide only [↓reduceIte]; rfl
theorem act_6 {j : Nat} (hj : j < 256) (hl : legB j = true) (ht : j / 16 = 6) (mu : Mu) : F_Pr_act_40 (nI j) mu = F_Pr_act_195 (nI j) (ps mu 9 7 ((mu 9 7 + 1) &&& 65535)) := by
  unfold F_Pr_act_40; rw [lg_c, lg_rows j hj, hl, (nb_rows j hj).1, ht]; simp +decide only [↓reduceIte]
theorem act_7 {j : Nat} (hj : j < 256) (hl : legB j = true) (ht : j / 16 = 7) (mu : Mu) : F_Pr_act_40 (nI j) mu = F_Pr_act_195 (nI j) (ps mu 9 7 ((mu 9 7 + 1) &&& 65535)) := by
  unfold F_Pr_act_40; rw [lg_c, lg_rows j hj, hl, (nb_rows j hj).1, ht]; simp +decide only [↓reduceIte]
theorem act_8 {j : Nat} (hj : j < 256) (hl : legB j = true) (ht : j / 16 = 8) (mu : Mu) : F_Pr_act_40 (nI j) mu = F_Pr_doWithOperand_12 (nI j) (F_Pr_operandAddress (nI j) (ps mu 9 7 ((mu 9 7 + 1) &&& 65535))).1 1 (F_Pr_operandAddress (nI j) (ps mu 9 7 ((mu 9 7 + 1) &&& 65535))).2 := by
  have q : ((192 : Int32) ≤ nI j) = (192 ≤ j) := q_le 192 (by omega) (by decide)
  unfold F_Pr_act_40 F_Pr_act_218 F_Pr_doWithOperand; rw [lg_c, lg_rows j hj, hl, (nb_rows j hj).1, ht]
  have z : ¬ (192 : Int32) ≤ nI j := fun w => absurd (q.mp w) (by omega)
  simp +decide only [z, ↓reduceIte]
theorem act_9 {j : Nat} (hj : j < 256) (hl : legB j = true) (ht : j / 16 = 9) (mu : Mu) : F_Pr_act_40 (nI j) mu = F_Pr_doWithOperand_12 (nI j) (F_Pr_operandAddress (nI j) (ps mu 9 7 ((mu 9 7 + 1) &&& 65535))).1 1 (F_Pr_operandAddress (nI j) (ps mu 9 7 ((mu 9 7 + 1) &&& 65535))).2 := by
  have q : ((192 : Int32) ≤ nI j) = (192 ≤ j) := q_le 192 (by omega) (by decide)
  unfold F_Pr_act_40 F_Pr_act_218 F_Pr_doWithOperand; rw [lg_c, lg_rows j hj, hl, (nb_rows j hj).1, ht]
  have z : ¬ (192 : Int32) ≤ nI j := fun w => absurd (q.mp w) (by omega)
  simp +decide only [z, ↓reduceIte]
theorem act_10 {j : Nat} (hj : j < 256) (hl : legB j = true) (ht : j / 16 = 10) (mu : Mu) : F_Pr_act_40 (nI j) mu = F_Pr_doWithOperand_12 (nI j) (F_Pr_operandAddress (nI j) (ps mu 9 7 ((mu 9 7 + 1) &&& 65535))).1 1 (F_Pr_operandAddress (nI j) (ps mu 9 7 ((mu 9 7 + 1) &&& 65535))).2 := by
  have q : ((192 : Int32) ≤ nI j) = (192 ≤ j) := q_le 192 (by omega) (by decide)
  unfold F_Pr_act_40 F_Pr_act_218 F_Pr_doWithOperand; rw [lg_c, lg_rows j hj, hl, (nb_rows j hj).1, ht]
  have z : ¬ (192 : Int32) ≤ nI j := fun w => absurd (q.mp w) (by omega)
  simp +decide only [z, ↓reduceIte]
theorem act_11 {j : Nat} (hj : j < 256) (hl : legB j = true) (ht : j / 16 = 11) (mu : Mu) : F_Pr_act_40 (nI j) mu = F_Pr_doWithOperand_12 (nI j) (F_Pr_operandAddress (nI j) (ps mu 9 7 ((mu 9 7 + 1) &&& 65535))).1 1 (F_Pr_operandAddress (nI j) (ps mu 9 7 ((mu 9 7 + 1) &&& 65535))).2 := by
  have q : ((192 : Int32) ≤ nI j) = (192 ≤ j) := q_le 192 (by omega) (by decide)
  unfold F_Pr_act_40 F_Pr_act_218 F_Pr_doWithOperand; rw [lg_c, lg_rows j hj, hl, (nb_rows j hj).1, ht]
  have z : ¬ (192 : Int32) ≤ nI j := fun w => absurd (q.mp w) (by omega)
  simp +decide only [z, ↓reduceIte]
theorem act_12 {j : Nat} (hj : j < 256) (hl : legB j = true) (ht : j / 16 = 12) (mu : Mu) : F_Pr_act_40 (nI j) mu = F_Pr_doWithOperand_12 (nI j) (F_Pr_operandAddress (nI j) (ps mu 9 7 ((mu 9 7 + 1) &&& 65535))).1 0 (F_Pr_operandAddress (nI j) (ps mu 9 7 ((mu 9 7 + 1) &&& 65535))).2 := by
  have q : ((192 : Int32) ≤ nI j) = (192 ≤ j) := q_le 192 (by omega) (by decide)
  unfold F_Pr_act_40 F_Pr_act_218 F_Pr_doWithOperand; rw [lg_c, lg_rows j hj, hl, (nb_rows j hj).1, ht]
  have z : (192 : Int32) ≤ nI j := q.mpr (by omega)
  simp +decide only [z, ↓reduceIte]
theorem act_13 {j : Nat} (hj : j < 256) (hl : legB j = true) (ht : j / 16 = 13) (mu : Mu) : F_Pr_act_40 (nI j) mu = F_Pr_doWithOperand_12 (nI j) (F_Pr_operandAddress (nI j) (ps mu 9 7 ((mu 9 7 + 1) &&& 65535))).1 0 (F_Pr_operandAddress (nI j) (ps mu 9 7 ((mu 9 7 + 1) &&& 65535))).2 := by
  have q : ((192 : Int32) ≤ nI j) = (192 ≤ j) := q_le 192 (by omega) (by decide)
  unfold F_Pr_act_40 F_Pr_act_218 F_Pr_doWithOperand; rw [lg_c, lg_rows j hj, hl, (nb_rows j hj).1, ht]
  have z : (192 : Int32) ≤ nI j := q.mpr (by omega)
  simp +decide only [z, ↓reduceIte]
theorem act_14 {j : Nat} (hj : j < 256) (hl : legB j = true) (ht : j / 16 = 14) (mu : Mu) : F_Pr_act_40 (nI j) mu = F_Pr_doWithOperand_12 (nI j) (F_Pr_operandAddress (nI j) (ps mu 9 7 ((mu 9 7 + 1) &&& 65535))).1 0 (F_Pr_operandAddress (nI j) (ps mu 9 7 ((mu 9 7 + 1) &&& 65535))).2 := by
  have q : ((192 : Int32) ≤ nI j) = (192 ≤ j) := q_le 192 (by omega) (by decide)
  unfold F_Pr_act_40 F_Pr_act_218 F_Pr_doWithOperand; rw [lg_c, lg_rows j hj, hl, (nb_rows j hj).1, ht]
  have z : (192 : Int32) ≤ nI j := q.mpr (by omega)
  simp +decide only [z, ↓reduceIte]
theorem act_15 {j : Nat} (hj : j < 256) (hl : legB j = true) (ht : j / 16 = 15) (mu : Mu) : F_Pr_act_40 (nI j) mu = F_Pr_doWithOperand_12 (nI j) (F_Pr_operandAddress (nI j) (ps mu 9 7 ((mu 9 7 + 1) &&& 65535))).1 0 (F_Pr_operandAddress (nI j) (ps mu 9 7 ((mu 9 7 + 1) &&& 65535))).2 := by
  have q : ((192 : Int32) ≤ nI j) = (192 ≤ j) := q_le 192 (by omega) (by decide)
  unfold F_Pr_act_40 F_Pr_act_218 F_Pr_doWithOperand; rw [lg_c, lg_rows j hj, hl, (nb_rows j hj).1, ht]
  have z : (192 : Int32) ≤ nI j := q.mpr (by omega)
  simp +decide only [z, ↓reduceIte]
theorem y10 : (1 - 0 : Int32) = 1 := by decide
theorem y11 : (1 - 1 : Int32) = 0 := by decide
theorem g_two' {mu nu : Mu} {op d w z y : Int32} (hy : 1 - z = y) (h : Rel mu nu) (e2 : op &&& 15 = d) (hd : isTw d) (hw : ways op w 1) (hz : z01 z) : GG (F_Pr_doWithOperand_12 op (F_Pr_operandAddress op mu).1 y (F_Pr_operandAddress op mu).2) (F_Md_worksOnTwo_23 d w z nu) := hy ▸ g_two h e2 hd hw hz
theorem g_sta' {mu nu : Mu} {op w z y : Int32} (hy : 1 - z = y) (h : Rel mu nu) (e2 : op &&& 15 = 7) (hw : way op w) (hz : z01 z) : GG (F_Pr_doWithOperand_12 op (F_Pr_operandAddress op mu).1 y (F_Pr_operandAddress op mu).2) (F_Md_worksOnTwo_23 7 w z nu) := hy ▸ g_sta h e2 hw hz
theorem g_stw' {mu nu : Mu} {op w z y : Int32} (hy : 1 - z = y) (h : Rel mu nu) (e2 : op &&& 15 = 15) (hw : way op w) (hz : z01 z) : GG (F_Pr_doWithOperand_12 op (F_Pr_operandAddress op mu).1 y (F_Pr_operandAddress op mu).2) (F_Md_worksOnTwo_23 15 w z nu) := hy ▸ g_stw h e2 hw hz
theorem g_ldw' {mu nu : Mu} {op w z y : Int32} (hy : 1 - z = y) (h : Rel mu nu) (e2 : op &&& 15 = 14) (hw : ways op w 2) (hz : z01 z) : GG (F_Pr_doWithOperand_12 op (F_Pr_operandAddress op mu).1 y (F_Pr_operandAddress op mu).2) (F_Md_worksOnTwo_23 14 w z nu) := hy ▸ g_ldw h e2 hw hz
theorem isz_rows : ∀ j, j < 256 → F_Pr_immediateSize (nI j &&& 15) (fun _ _ => 0) = (if j % 16 = 12 ∨ j % 16 = 14 then 2 else 1) := by decide +kernel

theorem md_i0 {j : Nat} (hj : j < 32) (f : Int32) (n : Mu) : F_Md_instruction_9 f (nI j) n = F_Md_instruction_100 f (F_Md_first (nI j) n).1 (F_Md_first (nI j) n).2 := by
  have q : ((32 : Int32) ≤ nI j) = (32 ≤ j) := q_le 32 (by omega) (by decide)
  unfold F_Md_instruction_9 F_Md_instruction_23; rw [if_neg (fun w => absurd (q.mp w) (by omega))]
theorem md_i2 {j : Nat} (h1 : 32 ≤ j) (hj : j < 48) (h3 : j ≠ 33) (f : Int32) (n : Mu) : F_Md_instruction_9 f (nI j) n = F_Md_branch (F_Md_branches (nI j &&& 15) n) n := by
  have q : ((32 : Int32) ≤ nI j) = (32 ≤ j) := q_le 32 (by omega) (by decide)
  have q2 : ((48 : Int32) ≤ nI j) = (48 ≤ j) := q_le 48 (by omega) (by decide)
  have q3 : (nI j = (33 : Int32)) = (j = 33) := q_eq 33 (by omega) (by decide)
  unfold F_Md_instruction_9 F_Md_instruction_44 F_Md_instruction_61 F_Md_instruction_100; rw [if_pos (q.mpr h1), if_neg (fun w => absurd (q2.mp w) (by omega)), if_neg (fun w => absurd (q3.mp w) h3)]
  simp +decide only [↓reduceIte]
theorem md_i33 (f : Int32) (n : Mu) : F_Md_instruction_9 f (nI 33) n = F_Md_instruction_100 f (0, n).1 (0, n).2 := by
  unfold F_Md_instruction_9 F_Md_instruction_44; simp +decide only [↓reduceIte]
theorem md_i3 {j : Nat} (h1 : 48 ≤ j) (hj : j < 64) (f : Int32) (n : Mu) : F_Md_instruction_9 f (nI j) n = F_Md_instruction_100 f (F_Md_stacked (nI j) n).1 (F_Md_stacked (nI j) n).2 := by
  have q : ((32 : Int32) ≤ nI j) = (32 ≤ j) := q_le 32 (by omega) (by decide)
  have q2 : ((48 : Int32) ≤ nI j) = (48 ≤ j) := q_le 48 (by omega) (by decide)
  have q3 : ((64 : Int32) ≤ nI j) = (64 ≤ j) := q_le 64 (by omega) (by decide)
  unfold F_Md_instruction_9 F_Md_instruction_75; rw [if_pos (q.mpr (by omega)), if_pos (q2.mpr h1), if_neg (fun w => absurd (q3.mp w) (by omega))]
theorem md_i4 {j : Nat} (h1 : 64 ≤ j) (hj : j < 128) (f : Int32) (n : Mu) : F_Md_instruction_9 f (nI j) n = F_Md_instruction_100 f (F_Md_worksOnOne (nI j) n).1 (F_Md_worksOnOne (nI j) n).2 := by
  have q : ((32 : Int32) ≤ nI j) = (32 ≤ j) := q_le 32 (by omega) (by decide)
  have q2 : ((48 : Int32) ≤ nI j) = (48 ≤ j) := q_le 48 (by omega) (by decide)
  have q3 : ((64 : Int32) ≤ nI j) = (64 ≤ j) := q_le 64 (by omega) (by decide)
  have q4 : ((128 : Int32) ≤ nI j) = (128 ≤ j) := q_le 128 (by omega) (by decide)
  unfold F_Md_instruction_9 F_Md_instruction_91 F_Md_instruction_99; rw [if_pos (q.mpr (by omega)), if_pos (q2.mpr (by omega)), if_pos (q3.mpr h1), if_neg (fun w => absurd (q4.mp w) (by omega))]
theorem md_i8 {j : Nat} (h1 : 128 ≤ j) (hj : j < 256) (f : Int32) (n : Mu) : F_Md_instruction_9 f (nI j) n = F_Md_instruction_100 f (F_Md_worksOnTwo_23 (nI (j % 16)) (nI (j / 16 % 4)) (if j < 192 then 0 else 1) n).1 (F_Md_worksOnTwo_23 (nI (j % 16)) (nI (j / 16 % 4)) (if j < 192 then 0 else 1) n).2 := by
  have q : ((32 : Int32) ≤ nI j) = (32 ≤ j) := q_le 32 (by omega) (by decide)
  have q2 : ((48 : Int32) ≤ nI j) = (48 ≤ j) := q_le 48 (by omega) (by decide)
  have q3 : ((64 : Int32) ≤ nI j) = (64 ≤ j) := q_le 64 (by omega) (by decide)
  have q4 : ((128 : Int32) ≤ nI j) = (128 ≤ j) := q_le 128 (by omega) (by decide)
  have q5 : (nI j < (192 : Int32)) = (j < 192) := q_lt 192 (by omega) (by decide)
  unfold F_Md_instruction_9 F_Md_instruction_99 F_Md_worksOnTwo; rw [if_pos (q.mpr (by omega)), if_pos (q2.mpr (by omega)), if_pos (q3.mpr (by omega)), if_pos (q4.mpr h1), (nb_rows j hj).2.1, (nb_rows j hj).2.2]
  by_cases z : j < 192
  · rw [if_pos z, if_pos (q5.mpr z)]
  · rw [if_neg z, if_neg (fun w => z (q5.mp w))]
