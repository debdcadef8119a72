/-! an instruction by its byte -/
def legB (j : Nat) : Bool := (([65474, 2755, 65533, 51967, 47065, 47065, 63449, 63449, 32631, 57335, 65527, 65527, 20343, 53239, 53239, 53239] : List Nat).getD (j / 16) 0).testBit (j % 16)
theorem lg_rows : ∀ j, j < 256 → F_Pr_isLegal (nI j) (fun _ _ => 0) = (if legB j = true then 1 else 0) := by decide +kernel
theorem lg_c (x : Int32) (mu : Mu) : F_Pr_isLegal x mu = F_Pr_isLegal x (fun _ _ => 0) := rfl
theorem nb_rows : ∀ j, j < 256 → nI j >>> ((4 : Int32) &&& 31) = nI (j / 16) ∧ nI j &&& 15 = nI (j % 16) ∧ (nI j >>> ((4 : Int32) &&& 31)) &&& 3 = nI (j / 16 % 4) := by decide +kernel
def OPS (j : Nat) (mu nu : Mu) : Prop := Rel (F_Pr_act_40 (nI j) mu) (F_Md_instruction_9 (nu 12 6) (nI j) (ps nu 12 6 ((nu 12 6 + 1) &&& 65535)))
theorem rel_p1 {mu nu : Mu} (h : Rel mu nu) : Rel (ps mu 9 7 ((mu 9 7 + 1) &&& 65535)) (ps nu 12 6 ((nu 12 6 + 1) &&& 65535)) := by
  rw [← h.1.2.2.2.2.1.1]; exact rel_p h (bW_and _)
theorem fin_l {c : Mu} {r : Int32 × Mu} {f : Int32} (g : GG c r) : Rel c (F_Md_instruction_100 f r.1 r.2) := by
  unfold F_Md_instruction_100; rw [g.1, if_neg (show ¬ (1 : Int32) = 0 by decide)]; exact g.2
theorem fin_i {mu nu : Mu} {v : Int32} {r : Int32 × Mu} (h : Rel mu nu) (e : r = (0, ps nu 12 6 v)) : Rel (ps mu 9 9 1) (F_Md_instruction_100 (nu 12 6) r.1 r.2) := by
  rw [e]; unfold F_Md_instruction_100
  show Rel _ (if (0 : Int32) = 0 then _ else _)
  rw [if_pos rfl, ps_ps, ps_id]; exact rel_t h
theorem act_il {j : Nat} (hj : j < 256) (hl : legB j = false) (mu : Mu) : F_Pr_act_40 (nI j) mu = ps mu 9 9 1 := by
  unfold F_Pr_act_40; rw [lg_c, lg_rows j hj, hl]; simp +decide only [↓reduceIte]
theorem act_0 {j : Nat} (hj : j < 256) (hl : legB j = true) (ht : j / 16 = 0) (mu : Mu) : F_Pr_act_40 (nI j) mu = F_Pr_doFlagsAndIndex (nI j) (ps mu 9 7 ((mu 9 7 + 1) &&& 65535)) := by
  unfold F_Pr_act_40; rw [lg_c, lg_rows j hj, hl, (nb_rows j hj).1, ht]; simp +decide only [↓reduceIte]
theorem act_1 {j : Nat} (hj : j < 256) (hl : legB j = true) (ht : j / 16 = 1) (mu : Mu) : F_Pr_act_40 (nI j) mu = F_Pr_doBetweenAccumulators (nI j) (ps mu 9 7 ((mu 9 7 + 1) &&& 65535)) := by
  unfold F_Pr_act_40; rw [lg_c, lg_rows j hj, hl, (nb_rows j hj).1, ht]; simp +decide only [↓reduceIte]
theorem act_2 {j : Nat} (hj : j < 256) (hl : legB j = true) (ht : j / 16 = 2) (mu : Mu) : F_Pr_act_40 (nI j) mu = F_Pr_branch (nI j &&& 15) (ps mu 9 7 ((mu 9 7 + 1) &&& 65535)) := by
  unfold F_Pr_act_40; rw [lg_c, lg_rows j hj, hl, (nb_rows j hj).1, ht]; simp +decide only [↓reduceIte]
theorem act_3 {j : Nat} (hj : j < 256) (hl : legB j = true) (ht : j / 16 = 3) (mu : Mu) : F_Pr_act_40 (nI j) mu = F_Pr_doStack (nI j) (ps mu 9 7 ((mu 9 7 + 1) &&& 65535)) := by
  unfold F_Pr_act_40; rw [lg_c, lg_rows j hj, hl, (nb_rows j hj).1, ht]; simp +decide only [↓reduceIte]
theorem act_4 {j : Nat} (hj : j < 256) (hl : legB j = true) (ht : j / 16 = 4) (mu : Mu) : F_Pr_act_40 (nI j) mu = F_Pr_act_167 (F_Ar_changed (nI j &&& 15) (mu 9 3) (ps mu 9 7 ((mu 9 7 + 1) &&& 65535))).1 (F_Ar_changed (nI j &&& 15) (mu 9 3) (ps mu 9 7 ((mu 9 7 + 1) &&& 65535))).2 := by
  unfold F_Pr_act_40; rw [lg_c, lg_rows j hj, hl, (nb_rows j hj).1, ht]; simp +decide only [↓reduceIte]
theorem act_5 {j : Nat} (hj : j < 256) (hl : legB j = true) (ht : j / 16 = 5) (mu : Mu) : F_Pr_act_40 (nI j) mu = F_Pr_act_189 (F_Ar_changed (nI j &&& 15) (mu 9 4) (ps mu 9 7 ((mu 9 7 + 1) &&& 65535))).1 (F_Ar_changed (nI j &&& 15) (mu 9 4) (ps mu 9 7 ((mu 9 7 + 1) &&& 65535))).2 := by
  unfold F_Pr_act_40; rw [lg_c, lg_rows j hj, hl, (nb_rows j hj).1, ht]; simp +decide only [↓reduceIte]
theorem act_6 {j : Nat} (hj : j < 256) (hl : legB j = true) (ht : j / 16 = 6) (mu : Mu) : F_Pr_act_40 (nI j) mu = F_Pr_act_195 (nI j) (ps mu 9 7 ((mu 9 7 + 1) &&& 65535)) := by
  unfold F_Pr_act_40; rw [lg_c, lg_rows j hj, hl, (nb_rows j hj).1, ht]; simp +decide only [↓reduceIte]
theorem act_7 {j : Nat} (hj : j < 256) (hl : legB j = true) (ht : j / 16 = 7) (mu : Mu) : F_Pr_act_40 (nI j) mu = F_Pr_act_195 (nI j) (ps mu 9 7 ((mu 9 7 + 1) &&& 65535)) := by
  unfold F_Pr_act_40; rw [lg_c, lg_rows j hj, hl, (nb_rows j hj).1, ht]; simp +decide only [↓reduceIte]
theorem act_8 {j : Nat} (hj : j < 256) (hl : legB j = true) (ht : j / 16 = 8) (mu : Mu) : F_Pr_act_40 (nI j) mu = F_Pr_doWithOperand_12 (nI j) (F_Pr_operandAddress (nI j) (ps mu 9 7 ((mu 9 7 + 1) &&& 65535))).1 1 (F_Pr_operandAddress (nI j) (ps mu 9 7 ((mu 9 7 + 1) &&& 65535))).2 := by
  have q : ((192 : Int32) ≤ nI j) = (192 ≤ j) := q_le 192 (by omega) (by decide)
  unfold F_Pr_act_40 F_Pr_act_218 F_Pr_doWithOperand; rw [lg_c, lg_rows j hj, hl, (nb_rows j hj).1, ht, q]
  have z : ¬ 192 ≤ j := by omega
  simp +decide only [z, ↓reduceIte]
theorem act_9 {j : Nat} (hj : j < 256) (hl : legB j = true) (ht : j / 16 = 9) (mu : Mu) : F_Pr_act_40 (nI j) mu = F_Pr_doWithOperand_12 (nI j) (F_Pr_operandAddress (nI j) (ps mu 9 7 ((mu 9 7 + 1) &&& 65535))).1 1 (F_Pr_operandAddress (nI j) (ps mu 9 7 ((mu 9 7 + 1) &&& 65535))).2 := by
  have q : ((192 : Int32) ≤ nI j) = (192 ≤ j) := q_le 192 (by omega) (by decide)
  unfold F_Pr_act_40 F_Pr_act_218 F_Pr_doWithOperand; rw [lg_c, lg_rows j hj, hl, (nb_rows j hj).1, ht, q]
  have z : ¬ 192 ≤ j := by omega
  simp +decide only [z, ↓reduceIte]
theorem act_10 {j : Nat} (hj : j < 256) (hl : legB j = true) (ht : j / 16 = 10) (mu : Mu) : F_Pr_act_40 (nI j) mu = F_Pr_doWithOperand_12 (nI j) (F_Pr_operandAddress (nI j) (ps mu 9 7 ((mu 9 7 + 1) &&& 65535))).1 1 (F_Pr_operandAddress (nI j) (ps mu 9 7 ((mu 9 7 + 1) &&& 65535))).2 := by
  have q : ((192 : Int32) ≤ nI j) = (192 ≤ j) := q_le 192 (by omega) (by decide)
  unfold F_Pr_act_40 F_Pr_act_218 F_Pr_doWithOperand; rw [lg_c, lg_rows j hj, hl, (nb_rows j hj).1, ht, q]
  have z : ¬ 192 ≤ j := by omega
  simp +decide only [z, ↓reduceIte]
theorem act_11 {j : Nat} (hj : j < 256) (hl : legB j = true) (ht : j / 16 = 11) (mu : Mu) : F_Pr_act_40 (nI j) mu = F_Pr_doWithOperand_12 (nI j) (F_Pr_operandAddress (nI j) (ps mu 9 7 ((mu 9 7 + 1) &&& 65535))).1 1 (F_Pr_operandAddress (nI j) (ps mu 9 7 ((mu 9 7 + 1) &&& 65535))).2 := by
  have q : ((192 : Int32) ≤ nI j) = (192 ≤ j) := q_le 192 (by omega) (by decide)
  unfold F_Pr_act_40 F_Pr_act_218 F_Pr_doWithOperand; rw [lg_c, lg_rows j hj, hl, (nb_rows j hj).1, ht, q]
  have z : ¬ 192 ≤ j := by omega
  simp +decide only [z, ↓reduceIte]
theorem act_12 {j : Nat} (hj : j < 256) (hl : legB j = true) (ht : j / 16 = 12) (mu : Mu) : F_Pr_act_40 (nI j) mu = F_Pr_doWithOperand_12 (nI j) (F_Pr_operandAddress (nI j) (ps mu 9 7 ((mu 9 7 + 1) &&& 65535))).1 0 (F_Pr_operandAddress (nI j) (ps mu 9 7 ((mu 9 7 + 1) &&& 65535))).2 := by
  have q : ((192 : Int32) ≤ nI j) = (192 ≤ j) := q_le 192 (by omega) (by decide)
  unfold F_Pr_act_40 F_Pr_act_218 F_Pr_doWithOperand; rw [lg_c, lg_rows j hj, hl, (nb_rows j hj).1, ht, q]
  have z : 192 ≤ j := by omega
  simp +decide only [z, ↓reduceIte]
theorem act_13 {j : Nat} (hj : j < 256) (hl : legB j = true) (ht : j / 16 = 13) (mu : Mu) : F_Pr_act_40 (nI j) mu = F_Pr_doWithOperand_12 (nI j) (F_Pr_operandAddress (nI j) (ps mu 9 7 ((mu 9 7 + 1) &&& 65535))).1 0 (F_Pr_operandAddress (nI j) (ps mu 9 7 ((mu 9 7 + 1) &&& 65535))).2 := by
  have q : ((192 : Int32) ≤ nI j) = (192 ≤ j) := q_le 192 (by omega) (by decide)
  unfold F_Pr_act_40 F_Pr_act_218 F_Pr_doWithOperand; rw [lg_c, lg_rows j hj, hl, (nb_rows j hj).1, ht, q]
  have z : 192 ≤ j := by omega
  simp +decide only [z, ↓reduceIte]
theorem act_14 {j : Nat} (hj : j < 256) (hl : legB j = true) (ht : j / 16 = 14) (mu : Mu) : F_Pr_act_40 (nI j) mu = F_Pr_doWithOperand_12 (nI j) (F_Pr_operandAddress (nI j) (ps mu 9 7 ((mu 9 7 + 1) &&& 65535))).1 0 (F_Pr_operandAddress (nI j) (ps mu 9 7 ((mu 9 7 + 1) &&& 65535))).2 := by
  have q : ((192 : Int32) ≤ nI j) = (192 ≤ j) := q_le 192 (by omega) (by decide)
  unfold F_Pr_act_40 F_Pr_act_218 F_Pr_doWithOperand; rw [lg_c, lg_rows j hj, hl, (nb_rows j hj).1, ht, q]
  have z : 192 ≤ j := by omega
  simp +decide only [z, ↓reduceIte]
theorem act_15 {j : Nat} (hj : j < 256) (hl : legB j = true) (ht : j / 16 = 15) (mu : Mu) : F_Pr_act_40 (nI j) mu = F_Pr_doWithOperand_12 (nI j) (F_Pr_operandAddress (nI j) (ps mu 9 7 ((mu 9 7 + 1) &&& 65535))).1 0 (F_Pr_operandAddress (nI j) (ps mu 9 7 ((mu 9 7 + 1) &&& 65535))).2 := by
  have q : ((192 : Int32) ≤ nI j) = (192 ≤ j) := q_le 192 (by omega) (by decide)
  unfold F_Pr_act_40 F_Pr_act_218 F_Pr_doWithOperand; rw [lg_c, lg_rows j hj, hl, (nb_rows j hj).1, ht, q]
  have z : 192 ≤ j := by omega
  simp +decide only [z, ↓reduceIte]
theorem md_i0 {j : Nat} (hj : j < 32) (f : Int32) (n : Mu) : F_Md_instruction_9 f (nI j) n = F_Md_instruction_100 f (F_Md_first (nI j) n).1 (F_Md_first (nI j) n).2 := by
  have q : ((32 : Int32) ≤ nI j) = (32 ≤ j) := q_le 32 (by omega) (by decide)
  have z : ¬ 32 ≤ j := by omega
  unfold F_Md_instruction_9 F_Md_instruction_23; rw [q, if_neg z]
theorem md_i2 {j : Nat} (h1 : 32 ≤ j) (hj : j < 48) (h3 : j ≠ 33) (f : Int32) (n : Mu) : F_Md_instruction_9 f (nI j) n = F_Md_branch (F_Md_branches (nI j &&& 15) n) n := by
  have q : ((32 : Int32) ≤ nI j) = (32 ≤ j) := q_le 32 (by omega) (by decide)
  have q2 : ((48 : Int32) ≤ nI j) = (48 ≤ j) := q_le 48 (by omega) (by decide)
  have q3 : (nI j = (33 : Int32)) = (j = 33) := q_eq 33 (by omega) (by decide)
  have z : ¬ 48 ≤ j := by omega
  unfold F_Md_instruction_9 F_Md_instruction_44 F_Md_instruction_61 F_Md_instruction_100; rw [q, q2, q3, if_pos h1, if_neg z, if_neg h3]
  simp +decide only [↓reduceIte]
theorem md_i33 (f : Int32) (n : Mu) : F_Md_instruction_9 f (nI 33) n = F_Md_instruction_100 f (0, n).1 (0, n).2 := by
  unfold F_Md_instruction_9 F_Md_instruction_44; simp +decide only [↓reduceIte]
theorem md_i3 {j : Nat} (h1 : 48 ≤ j) (hj : j < 64) (f : Int32) (n : Mu) : F_Md_instruction_9 f (nI j) n = F_Md_instruction_100 f (F_Md_stacked (nI j) n).1 (F_Md_stacked (nI j) n).2 := by
  have q : ((32 : Int32) ≤ nI j) = (32 ≤ j) := q_le 32 (by omega) (by decide)
  have q2 : ((48 : Int32) ≤ nI j) = (48 ≤ j) := q_le 48 (by omega) (by decide)
  have q3 : ((64 : Int32) ≤ nI j) = (64 ≤ j) := q_le 64 (by omega) (by decide)
  unfold F_Md_instruction_9 F_Md_instruction_75; rw [q, q2, q3, if_pos (show 32 ≤ j by omega), if_pos h1, if_neg (show ¬ 64 ≤ j by omega)]
theorem md_i4 {j : Nat} (h1 : 64 ≤ j) (hj : j < 128) (f : Int32) (n : Mu) : F_Md_instruction_9 f (nI j) n = F_Md_instruction_100 f (F_Md_worksOnOne (nI j) n).1 (F_Md_worksOnOne (nI j) n).2 := by
  have q : ((32 : Int32) ≤ nI j) = (32 ≤ j) := q_le 32 (by omega) (by decide)
  have q2 : ((48 : Int32) ≤ nI j) = (48 ≤ j) := q_le 48 (by omega) (by decide)
  have q3 : ((64 : Int32) ≤ nI j) = (64 ≤ j) := q_le 64 (by omega) (by decide)
  have q4 : ((128 : Int32) ≤ nI j) = (128 ≤ j) := q_le 128 (by omega) (by decide)
  unfold F_Md_instruction_9 F_Md_instruction_91 F_Md_instruction_99; rw [q, q2, q3, q4, if_pos (show 32 ≤ j by omega), if_pos (show 48 ≤ j by omega), if_pos h1, if_neg (show ¬ 128 ≤ j by omega)]
theorem md_i8 {j : Nat} (h1 : 128 ≤ j) (hj : j < 256) (f : Int32) (n : Mu) : F_Md_instruction_9 f (nI j) n = F_Md_instruction_100 f (F_Md_worksOnTwo_23 (nI (j % 16)) (nI (j / 16 % 4)) (if j < 192 then 0 else 1) n).1 (F_Md_worksOnTwo_23 (nI (j % 16)) (nI (j / 16 % 4)) (if j < 192 then 0 else 1) n).2 := by
  have q : ((32 : Int32) ≤ nI j) = (32 ≤ j) := q_le 32 (by omega) (by decide)
  have q2 : ((48 : Int32) ≤ nI j) = (48 ≤ j) := q_le 48 (by omega) (by decide)
  have q3 : ((64 : Int32) ≤ nI j) = (64 ≤ j) := q_le 64 (by omega) (by decide)
  have q4 : ((128 : Int32) ≤ nI j) = (128 ≤ j) := q_le 128 (by omega) (by decide)
  have q5 : (nI j < (192 : Int32)) = (j < 192) := q_lt 192 (by omega) (by decide)
  unfold F_Md_instruction_9 F_Md_instruction_99 F_Md_worksOnTwo; rw [q, q2, q3, q4, q5, if_pos (show 32 ≤ j by omega), if_pos (show 48 ≤ j by omega), if_pos (show 64 ≤ j by omega), if_pos h1, (nb_rows j hj).2.1, (nb_rows j hj).2.2]
  split <;> rfl
theorem op_0 {mu nu : Mu} (h : Rel mu nu) : OPS 0 mu nu := by
  unfold OPS
  rw [act_il (by decide) (by decide)]
  rw [md_i0 (by decide)]
  exact fin_i h (by simp +decide only [F_Md_first, ↓reduceIte])
theorem op_1 {mu nu : Mu} (h : Rel mu nu) : OPS 1 mu nu := by
  unfold OPS
  rw [act_0 (by decide) (by decide) (by decide)]
  rw [md_i0 (by decide)]
  exact fin_l (gi_1 (rel_p1 h))
theorem op_2 {mu nu : Mu} (h : Rel mu nu) : OPS 2 mu nu := by
  unfold OPS
  rw [act_il (by decide) (by decide)]
  rw [md_i0 (by decide)]
  exact fin_i h (by simp +decide only [F_Md_first, ↓reduceIte])
theorem op_3 {mu nu : Mu} (h : Rel mu nu) : OPS 3 mu nu := by
  unfold OPS
  rw [act_il (by decide) (by decide)]
  rw [md_i0 (by decide)]
  exact fin_i h (by simp +decide only [F_Md_first, ↓reduceIte])
theorem op_4 {mu nu : Mu} (h : Rel mu nu) : OPS 4 mu nu := by
  unfold OPS
  rw [act_il (by decide) (by decide)]
  rw [md_i0 (by decide)]
  exact fin_i h (by simp +decide only [F_Md_first, ↓reduceIte])
theorem op_5 {mu nu : Mu} (h : Rel mu nu) : OPS 5 mu nu := by
  unfold OPS
  rw [act_il (by decide) (by decide)]
  rw [md_i0 (by decide)]
  exact fin_i h (by simp +decide only [F_Md_first, ↓reduceIte])
theorem op_6 {mu nu : Mu} (h : Rel mu nu) : OPS 6 mu nu := by
  unfold OPS
  rw [act_0 (by decide) (by decide) (by decide)]
  rw [md_i0 (by decide)]
  exact fin_l (gi_6 (rel_p1 h))
theorem op_7 {mu nu : Mu} (h : Rel mu nu) : OPS 7 mu nu := by
  unfold OPS
  rw [act_0 (by decide) (by decide) (by decide)]
  rw [md_i0 (by decide)]
  exact fin_l (gi_7 (rel_p1 h))
theorem op_8 {mu nu : Mu} (h : Rel mu nu) : OPS 8 mu nu := by
  unfold OPS
  rw [act_0 (by decide) (by decide) (by decide)]
  rw [md_i0 (by decide)]
  exact fin_l (gi_8 (rel_p1 h))
theorem op_9 {mu nu : Mu} (h : Rel mu nu) : OPS 9 mu nu := by
  unfold OPS
  rw [act_0 (by decide) (by decide) (by decide)]
  rw [md_i0 (by decide)]
  exact fin_l (gi_9 (rel_p1 h))
theorem op_10 {mu nu : Mu} (h : Rel mu nu) : OPS 10 mu nu := by
  unfold OPS
  rw [act_0 (by decide) (by decide) (by decide)]
  rw [md_i0 (by decide)]
  exact fin_l (gi_10 (rel_p1 h))
theorem op_11 {mu nu : Mu} (h : Rel mu nu) : OPS 11 mu nu := by
  unfold OPS
  rw [act_0 (by decide) (by decide) (by decide)]
  rw [md_i0 (by decide)]
  exact fin_l (gi_11 (rel_p1 h))
theorem op_12 {mu nu : Mu} (h : Rel mu nu) : OPS 12 mu nu := by
  unfold OPS
  rw [act_0 (by decide) (by decide) (by decide)]
  rw [md_i0 (by decide)]
  exact fin_l (gi_12 (rel_p1 h))
theorem op_13 {mu nu : Mu} (h : Rel mu nu) : OPS 13 mu nu := by
  unfold OPS
  rw [act_0 (by decide) (by decide) (by decide)]
  rw [md_i0 (by decide)]
  exact fin_l (gi_13 (rel_p1 h))
theorem op_14 {mu nu : Mu} (h : Rel mu nu) : OPS 14 mu nu := by
  unfold OPS
  rw [act_0 (by decide) (by decide) (by decide)]
  rw [md_i0 (by decide)]
  exact fin_l (gi_14 (rel_p1 h))
theorem op_15 {mu nu : Mu} (h : Rel mu nu) : OPS 15 mu nu := by
  unfold OPS
  rw [act_0 (by decide) (by decide) (by decide)]
  rw [md_i0 (by decide)]
  exact fin_l (gi_15 (rel_p1 h))
theorem op_16 {mu nu : Mu} (h : Rel mu nu) : OPS 16 mu nu := by
  unfold OPS
  rw [act_1 (by decide) (by decide) (by decide)]
  rw [md_i0 (by decide)]
  exact fin_l (gi_16 (rel_p1 h))
theorem op_17 {mu nu : Mu} (h : Rel mu nu) : OPS 17 mu nu := by
  unfold OPS
  rw [act_1 (by decide) (by decide) (by decide)]
  rw [md_i0 (by decide)]
  exact fin_l (gi_17 (rel_p1 h))
theorem op_18 {mu nu : Mu} (h : Rel mu nu) : OPS 18 mu nu := by
  unfold OPS
  rw [act_il (by decide) (by decide)]
  rw [md_i0 (by decide)]
  exact fin_i h (by simp +decide only [F_Md_first, ↓reduceIte])
theorem op_19 {mu nu : Mu} (h : Rel mu nu) : OPS 19 mu nu := by
  unfold OPS
  rw [act_il (by decide) (by decide)]
  rw [md_i0 (by decide)]
  exact fin_i h (by simp +decide only [F_Md_first, ↓reduceIte])
theorem op_20 {mu nu : Mu} (h : Rel mu nu) : OPS 20 mu nu := by
  unfold OPS
  rw [act_il (by decide) (by decide)]
  rw [md_i0 (by decide)]
  exact fin_i h (by simp +decide only [F_Md_first, ↓reduceIte])
theorem op_21 {mu nu : Mu} (h : Rel mu nu) : OPS 21 mu nu := by
  unfold OPS
  rw [act_il (by decide) (by decide)]
  rw [md_i0 (by decide)]
  exact fin_i h (by simp +decide only [F_Md_first, ↓reduceIte])
theorem op_22 {mu nu : Mu} (h : Rel mu nu) : OPS 22 mu nu := by
  unfold OPS
  rw [act_1 (by decide) (by decide) (by decide)]
  rw [md_i0 (by decide)]
  exact fin_l (gi_22 (rel_p1 h))
theorem op_23 {mu nu : Mu} (h : Rel mu nu) : OPS 23 mu nu := by
  unfold OPS
  rw [act_1 (by decide) (by decide) (by decide)]
  rw [md_i0 (by decide)]
  exact fin_l (gi_23 (rel_p1 h))
theorem op_24 {mu nu : Mu} (h : Rel mu nu) : OPS 24 mu nu := by
  unfold OPS
  rw [act_il (by decide) (by decide)]
  rw [md_i0 (by decide)]
  exact fin_i h (by simp +decide only [F_Md_first, ↓reduceIte])
theorem op_25 {mu nu : Mu} (h : Rel mu nu) : OPS 25 mu nu := by
  unfold OPS
  rw [act_1 (by decide) (by decide) (by decide)]
  rw [md_i0 (by decide)]
  exact fin_l (gi_25 (rel_p1 h))
theorem op_26 {mu nu : Mu} (h : Rel mu nu) : OPS 26 mu nu := by
  unfold OPS
  rw [act_il (by decide) (by decide)]
  rw [md_i0 (by decide)]
  exact fin_i h (by simp +decide only [F_Md_first, ↓reduceIte])
theorem op_27 {mu nu : Mu} (h : Rel mu nu) : OPS 27 mu nu := by
  unfold OPS
  rw [act_1 (by decide) (by decide) (by decide)]
  rw [md_i0 (by decide)]
  exact fin_l (gi_27 (rel_p1 h))
theorem op_28 {mu nu : Mu} (h : Rel mu nu) : OPS 28 mu nu := by
  unfold OPS
  rw [act_il (by decide) (by decide)]
  rw [md_i0 (by decide)]
  exact fin_i h (by simp +decide only [F_Md_first, ↓reduceIte])
theorem op_29 {mu nu : Mu} (h : Rel mu nu) : OPS 29 mu nu := by
  unfold OPS
  rw [act_il (by decide) (by decide)]
  rw [md_i0 (by decide)]
  exact fin_i h (by simp +decide only [F_Md_first, ↓reduceIte])
theorem op_30 {mu nu : Mu} (h : Rel mu nu) : OPS 30 mu nu := by
  unfold OPS
  rw [act_il (by decide) (by decide)]
  rw [md_i0 (by decide)]
  exact fin_i h (by simp +decide only [F_Md_first, ↓reduceIte])
theorem op_31 {mu nu : Mu} (h : Rel mu nu) : OPS 31 mu nu := by
  unfold OPS
  rw [act_il (by decide) (by decide)]
  rw [md_i0 (by decide)]
  exact fin_i h (by simp +decide only [F_Md_first, ↓reduceIte])
theorem op_32 {mu nu : Mu} (h : Rel mu nu) : OPS 32 mu nu := by
  unfold OPS
  rw [act_2 (by decide) (by decide) (by decide)]
  rw [md_i2 (by decide) (by decide) (by decide)]
  exact rel_branch (k := 0) (rel_p1 h) (by decide) (by decide)
theorem op_33 {mu nu : Mu} (h : Rel mu nu) : OPS 33 mu nu := by
  unfold OPS
  rw [act_il (by decide) (by decide)]
  rw [md_i33]
  exact fin_i h rfl
theorem op_34 {mu nu : Mu} (h : Rel mu nu) : OPS 34 mu nu := by
  unfold OPS
  rw [act_2 (by decide) (by decide) (by decide)]
  rw [md_i2 (by decide) (by decide) (by decide)]
  exact rel_branch (k := 2) (rel_p1 h) (by decide) (by decide)
theorem op_35 {mu nu : Mu} (h : Rel mu nu) : OPS 35 mu nu := by
  unfold OPS
  rw [act_2 (by decide) (by decide) (by decide)]
  rw [md_i2 (by decide) (by decide) (by decide)]
  exact rel_branch (k := 3) (rel_p1 h) (by decide) (by decide)
theorem op_36 {mu nu : Mu} (h : Rel mu nu) : OPS 36 mu nu := by
  unfold OPS
  rw [act_2 (by decide) (by decide) (by decide)]
  rw [md_i2 (by decide) (by decide) (by decide)]
  exact rel_branch (k := 4) (rel_p1 h) (by decide) (by decide)
theorem op_37 {mu nu : Mu} (h : Rel mu nu) : OPS 37 mu nu := by
  unfold OPS
  rw [act_2 (by decide) (by decide) (by decide)]
  rw [md_i2 (by decide) (by decide) (by decide)]
  exact rel_branch (k := 5) (rel_p1 h) (by decide) (by decide)
theorem op_38 {mu nu : Mu} (h : Rel mu nu) : OPS 38 mu nu := by
  unfold OPS
  rw [act_2 (by decide) (by decide) (by decide)]
  rw [md_i2 (by decide) (by decide) (by decide)]
  exact rel_branch (k := 6) (rel_p1 h) (by decide) (by decide)
theorem op_39 {mu nu : Mu} (h : Rel mu nu) : OPS 39 mu nu := by
  unfold OPS
  rw [act_2 (by decide) (by decide) (by decide)]
  rw [md_i2 (by decide) (by decide) (by decide)]
  exact rel_branch (k := 7) (rel_p1 h) (by decide) (by decide)
theorem op_40 {mu nu : Mu} (h : Rel mu nu) : OPS 40 mu nu := by
  unfold OPS
  rw [act_2 (by decide) (by decide) (by decide)]
  rw [md_i2 (by decide) (by decide) (by decide)]
  exact rel_branch (k := 8) (rel_p1 h) (by decide) (by decide)
theorem op_41 {mu nu : Mu} (h : Rel mu nu) : OPS 41 mu nu := by
  unfold OPS
  rw [act_2 (by decide) (by decide) (by decide)]
  rw [md_i2 (by decide) (by decide) (by decide)]
  exact rel_branch (k := 9) (rel_p1 h) (by decide) (by decide)
theorem op_42 {mu nu : Mu} (h : Rel mu nu) : OPS 42 mu nu := by
  unfold OPS
  rw [act_2 (by decide) (by decide) (by decide)]
  rw [md_i2 (by decide) (by decide) (by decide)]
  exact rel_branch (k := 10) (rel_p1 h) (by decide) (by decide)
theorem op_43 {mu nu : Mu} (h : Rel mu nu) : OPS 43 mu nu := by
  unfold OPS
  rw [act_2 (by decide) (by decide) (by decide)]
  rw [md_i2 (by decide) (by decide) (by decide)]
  exact rel_branch (k := 11) (rel_p1 h) (by decide) (by decide)
theorem op_44 {mu nu : Mu} (h : Rel mu nu) : OPS 44 mu nu := by
  unfold OPS
  rw [act_2 (by decide) (by decide) (by decide)]
  rw [md_i2 (by decide) (by decide) (by decide)]
  exact rel_branch (k := 12) (rel_p1 h) (by decide) (by decide)
theorem op_45 {mu nu : Mu} (h : Rel mu nu) : OPS 45 mu nu := by
  unfold OPS
  rw [act_2 (by decide) (by decide) (by decide)]
  rw [md_i2 (by decide) (by decide) (by decide)]
  exact rel_branch (k := 13) (rel_p1 h) (by decide) (by decide)
theorem op_46 {mu nu : Mu} (h : Rel mu nu) : OPS 46 mu nu := by
  unfold OPS
  rw [act_2 (by decide) (by decide) (by decide)]
  rw [md_i2 (by decide) (by decide) (by decide)]
  exact rel_branch (k := 14) (rel_p1 h) (by decide) (by decide)
theorem op_47 {mu nu : Mu} (h : Rel mu nu) : OPS 47 mu nu := by
  unfold OPS
  rw [act_2 (by decide) (by decide) (by decide)]
  rw [md_i2 (by decide) (by decide) (by decide)]
  exact rel_branch (k := 15) (rel_p1 h) (by decide) (by decide)
theorem op_48 {mu nu : Mu} (h : Rel mu nu) : OPS 48 mu nu := by
  unfold OPS
  rw [act_3 (by decide) (by decide) (by decide)]
  rw [md_i3 (by decide) (by decide)]
  exact fin_l (gi_48 (rel_p1 h))
theorem op_49 {mu nu : Mu} (h : Rel mu nu) : OPS 49 mu nu := by
  unfold OPS
  rw [act_3 (by decide) (by decide) (by decide)]
  rw [md_i3 (by decide) (by decide)]
  exact fin_l (gi_49 (rel_p1 h))
theorem op_50 {mu nu : Mu} (h : Rel mu nu) : OPS 50 mu nu := by
  unfold OPS
  rw [act_3 (by decide) (by decide) (by decide)]
  rw [md_i3 (by decide) (by decide)]
  exact fin_l (gi_50 (rel_p1 h))
theorem op_51 {mu nu : Mu} (h : Rel mu nu) : OPS 51 mu nu := by
  unfold OPS
  rw [act_3 (by decide) (by decide) (by decide)]
  rw [md_i3 (by decide) (by decide)]
  exact fin_l (gi_51 (rel_p1 h))
theorem op_52 {mu nu : Mu} (h : Rel mu nu) : OPS 52 mu nu := by
  unfold OPS
  rw [act_3 (by decide) (by decide) (by decide)]
  rw [md_i3 (by decide) (by decide)]
  exact fin_l (gi_52 (rel_p1 h))
theorem op_53 {mu nu : Mu} (h : Rel mu nu) : OPS 53 mu nu := by
  unfold OPS
  rw [act_3 (by decide) (by decide) (by decide)]
  rw [md_i3 (by decide) (by decide)]
  exact fin_l (gi_53 (rel_p1 h))
theorem op_54 {mu nu : Mu} (h : Rel mu nu) : OPS 54 mu nu := by
  unfold OPS
  rw [act_3 (by decide) (by decide) (by decide)]
  rw [md_i3 (by decide) (by decide)]
  exact fin_l (gi_54 (rel_p1 h))
theorem op_55 {mu nu : Mu} (h : Rel mu nu) : OPS 55 mu nu := by
  unfold OPS
  rw [act_3 (by decide) (by decide) (by decide)]
  rw [md_i3 (by decide) (by decide)]
  exact fin_l (gi_55 (rel_p1 h))
theorem op_56 {mu nu : Mu} (h : Rel mu nu) : OPS 56 mu nu := by
  unfold OPS
  rw [act_il (by decide) (by decide)]
  rw [md_i3 (by decide) (by decide)]
  exact fin_i h (by simp +decide only [F_Md_stacked, ↓reduceIte])
theorem op_57 {mu nu : Mu} (h : Rel mu nu) : OPS 57 mu nu := by
  unfold OPS
  rw [act_3 (by decide) (by decide) (by decide)]
  rw [md_i3 (by decide) (by decide)]
  exact fin_l (gi_57 (rel_p1 h))
theorem op_58 {mu nu : Mu} (h : Rel mu nu) : OPS 58 mu nu := by
  unfold OPS
  rw [act_il (by decide) (by decide)]
  rw [md_i3 (by decide) (by decide)]
  exact fin_i h (by simp +decide only [F_Md_stacked, ↓reduceIte])
theorem op_59 {mu nu : Mu} (h : Rel mu nu) : OPS 59 mu nu := by
  unfold OPS
  rw [act_3 (by decide) (by decide) (by decide)]
  rw [md_i3 (by decide) (by decide)]
  exact fin_l (gi_59 (rel_p1 h))
theorem op_60 {mu nu : Mu} (h : Rel mu nu) : OPS 60 mu nu := by
  unfold OPS
  rw [act_il (by decide) (by decide)]
  rw [md_i3 (by decide) (by decide)]
  exact fin_i h (by simp +decide only [F_Md_stacked, ↓reduceIte])
theorem op_61 {mu nu : Mu} (h : Rel mu nu) : OPS 61 mu nu := by
  unfold OPS
  rw [act_il (by decide) (by decide)]
  rw [md_i3 (by decide) (by decide)]
  exact fin_i h (by simp +decide only [F_Md_stacked, ↓reduceIte])
theorem op_62 {mu nu : Mu} (h : Rel mu nu) : OPS 62 mu nu := by
  unfold OPS
  rw [act_3 (by decide) (by decide) (by decide)]
  rw [md_i3 (by decide) (by decide)]
  exact fin_l (gi_62 (rel_p1 h))
theorem op_63 {mu nu : Mu} (h : Rel mu nu) : OPS 63 mu nu := by
  unfold OPS
  rw [act_3 (by decide) (by decide) (by decide)]
  rw [md_i3 (by decide) (by decide)]
  exact fin_l (gi_63 (rel_p1 h))
theorem op_64 {mu nu : Mu} (h : Rel mu nu) : OPS 64 mu nu := by
  unfold OPS
  rw [act_4 (by decide) (by decide) (by decide)]
  rw [md_i4 (by decide) (by decide)]
  exact fin_l (g_4 (op := nI 64) (d := 0) (rel_p1 h) (by decide) (by decide) (by unfold isSg; decide))
theorem op_65 {mu nu : Mu} (h : Rel mu nu) : OPS 65 mu nu := by
  unfold OPS
  rw [act_il (by decide) (by decide)]
  rw [md_i4 (by decide) (by decide)]
  exact fin_i h (by simp +decide only [F_Md_worksOnOne, F_Md_worksOnOne_42, F_Md_isSingle, F_Md_isSingle_26, ↓reduceIte])
theorem op_66 {mu nu : Mu} (h : Rel mu nu) : OPS 66 mu nu := by
  unfold OPS
  rw [act_il (by decide) (by decide)]
  rw [md_i4 (by decide) (by decide)]
  exact fin_i h (by simp +decide only [F_Md_worksOnOne, F_Md_worksOnOne_42, F_Md_isSingle, F_Md_isSingle_26, ↓reduceIte])
theorem op_67 {mu nu : Mu} (h : Rel mu nu) : OPS 67 mu nu := by
  unfold OPS
  rw [act_4 (by decide) (by decide) (by decide)]
  rw [md_i4 (by decide) (by decide)]
  exact fin_l (g_4 (op := nI 67) (d := 3) (rel_p1 h) (by decide) (by decide) (by unfold isSg; decide))
theorem op_68 {mu nu : Mu} (h : Rel mu nu) : OPS 68 mu nu := by
  unfold OPS
  rw [act_4 (by decide) (by decide) (by decide)]
  rw [md_i4 (by decide) (by decide)]
  exact fin_l (g_4 (op := nI 68) (d := 4) (rel_p1 h) (by decide) (by decide) (by unfold isSg; decide))
theorem op_69 {mu nu : Mu} (h : Rel mu nu) : OPS 69 mu nu := by
  unfold OPS
  rw [act_il (by decide) (by decide)]
  rw [md_i4 (by decide) (by decide)]
  exact fin_i h (by simp +decide only [F_Md_worksOnOne, F_Md_worksOnOne_42, F_Md_isSingle, F_Md_isSingle_26, ↓reduceIte])
theorem op_70 {mu nu : Mu} (h : Rel mu nu) : OPS 70 mu nu := by
  unfold OPS
  rw [act_4 (by decide) (by decide) (by decide)]
  rw [md_i4 (by decide) (by decide)]
  exact fin_l (g_4 (op := nI 70) (d := 6) (rel_p1 h) (by decide) (by decide) (by unfold isSg; decide))
theorem op_71 {mu nu : Mu} (h : Rel mu nu) : OPS 71 mu nu := by
  unfold OPS
  rw [act_4 (by decide) (by decide) (by decide)]
  rw [md_i4 (by decide) (by decide)]
  exact fin_l (g_4 (op := nI 71) (d := 7) (rel_p1 h) (by decide) (by decide) (by unfold isSg; decide))
theorem op_72 {mu nu : Mu} (h : Rel mu nu) : OPS 72 mu nu := by
  unfold OPS
  rw [act_4 (by decide) (by decide) (by decide)]
  rw [md_i4 (by decide) (by decide)]
  exact fin_l (g_4 (op := nI 72) (d := 8) (rel_p1 h) (by decide) (by decide) (by unfold isSg; decide))
theorem op_73 {mu nu : Mu} (h : Rel mu nu) : OPS 73 mu nu := by
  unfold OPS
  rw [act_4 (by decide) (by decide) (by decide)]
  rw [md_i4 (by decide) (by decide)]
  exact fin_l (g_4 (op := nI 73) (d := 9) (rel_p1 h) (by decide) (by decide) (by unfold isSg; decide))
theorem op_74 {mu nu : Mu} (h : Rel mu nu) : OPS 74 mu nu := by
  unfold OPS
  rw [act_4 (by decide) (by decide) (by decide)]
  rw [md_i4 (by decide) (by decide)]
  exact fin_l (g_4 (op := nI 74) (d := 10) (rel_p1 h) (by decide) (by decide) (by unfold isSg; decide))
theorem op_75 {mu nu : Mu} (h : Rel mu nu) : OPS 75 mu nu := by
  unfold OPS
  rw [act_il (by decide) (by decide)]
  rw [md_i4 (by decide) (by decide)]
  exact fin_i h (by simp +decide only [F_Md_worksOnOne, F_Md_worksOnOne_42, F_Md_isSingle, F_Md_isSingle_26, ↓reduceIte])
theorem op_76 {mu nu : Mu} (h : Rel mu nu) : OPS 76 mu nu := by
  unfold OPS
  rw [act_4 (by decide) (by decide) (by decide)]
  rw [md_i4 (by decide) (by decide)]
  exact fin_l (g_4 (op := nI 76) (d := 12) (rel_p1 h) (by decide) (by decide) (by unfold isSg; decide))
theorem op_77 {mu nu : Mu} (h : Rel mu nu) : OPS 77 mu nu := by
  unfold OPS
  rw [act_4 (by decide) (by decide) (by decide)]
  rw [md_i4 (by decide) (by decide)]
  exact fin_l (g_4 (op := nI 77) (d := 13) (rel_p1 h) (by decide) (by decide) (by unfold isSg; decide))
theorem op_78 {mu nu : Mu} (h : Rel mu nu) : OPS 78 mu nu := by
  unfold OPS
  rw [act_il (by decide) (by decide)]
  rw [md_i4 (by decide) (by decide)]
  exact fin_i h (by simp +decide only [F_Md_worksOnOne, F_Md_worksOnOne_42, F_Md_isSingle, F_Md_isSingle_26, ↓reduceIte])
theorem op_79 {mu nu : Mu} (h : Rel mu nu) : OPS 79 mu nu := by
  unfold OPS
  rw [act_4 (by decide) (by decide) (by decide)]
  rw [md_i4 (by decide) (by decide)]
  exact fin_l (g_4 (op := nI 79) (d := 15) (rel_p1 h) (by decide) (by decide) (by unfold isSg; decide))
theorem op_80 {mu nu : Mu} (h : Rel mu nu) : OPS 80 mu nu := by
  unfold OPS
  rw [act_5 (by decide) (by decide) (by decide)]
  rw [md_i4 (by decide) (by decide)]
  exact fin_l (g_5 (op := nI 80) (d := 0) (rel_p1 h) (by decide) (by decide) (by unfold isSg; decide))
theorem op_81 {mu nu : Mu} (h : Rel mu nu) : OPS 81 mu nu := by
  unfold OPS
  rw [act_il (by decide) (by decide)]
  rw [md_i4 (by decide) (by decide)]
  exact fin_i h (by simp +decide only [F_Md_worksOnOne, F_Md_worksOnOne_42, F_Md_isSingle, F_Md_isSingle_26, ↓reduceIte])
theorem op_82 {mu nu : Mu} (h : Rel mu nu) : OPS 82 mu nu := by
  unfold OPS
  rw [act_il (by decide) (by decide)]
  rw [md_i4 (by decide) (by decide)]
  exact fin_i h (by simp +decide only [F_Md_worksOnOne, F_Md_worksOnOne_42, F_Md_isSingle, F_Md_isSingle_26, ↓reduceIte])
theorem op_83 {mu nu : Mu} (h : Rel mu nu) : OPS 83 mu nu := by
  unfold OPS
  rw [act_5 (by decide) (by decide) (by decide)]
  rw [md_i4 (by decide) (by decide)]
  exact fin_l (g_5 (op := nI 83) (d := 3) (rel_p1 h) (by decide) (by decide) (by unfold isSg; decide))
theorem op_84 {mu nu : Mu} (h : Rel mu nu) : OPS 84 mu nu := by
  unfold OPS
  rw [act_5 (by decide) (by decide) (by decide)]
  rw [md_i4 (by decide) (by decide)]
  exact fin_l (g_5 (op := nI 84) (d := 4) (rel_p1 h) (by decide) (by decide) (by unfold isSg; decide))
theorem op_85 {mu nu : Mu} (h : Rel mu nu) : OPS 85 mu nu := by
  unfold OPS
  rw [act_il (by decide) (by decide)]
  rw [md_i4 (by decide) (by decide)]
  exact fin_i h (by simp +decide only [F_Md_worksOnOne, F_Md_worksOnOne_42, F_Md_isSingle, F_Md_isSingle_26, ↓reduceIte])
theorem op_86 {mu nu : Mu} (h : Rel mu nu) : OPS 86 mu nu := by
  unfold OPS
  rw [act_5 (by decide) (by decide) (by decide)]
  rw [md_i4 (by decide) (by decide)]
  exact fin_l (g_5 (op := nI 86) (d := 6) (rel_p1 h) (by decide) (by decide) (by unfold isSg; decide))
theorem op_87 {mu nu : Mu} (h : Rel mu nu) : OPS 87 mu nu := by
  unfold OPS
  rw [act_5 (by decide) (by decide) (by decide)]
  rw [md_i4 (by decide) (by decide)]
  exact fin_l (g_5 (op := nI 87) (d := 7) (rel_p1 h) (by decide) (by decide) (by unfold isSg; decide))
theorem op_88 {mu nu : Mu} (h : Rel mu nu) : OPS 88 mu nu := by
  unfold OPS
  rw [act_5 (by decide) (by decide) (by decide)]
  rw [md_i4 (by decide) (by decide)]
  exact fin_l (g_5 (op := nI 88) (d := 8) (rel_p1 h) (by decide) (by decide) (by unfold isSg; decide))
theorem op_89 {mu nu : Mu} (h : Rel mu nu) : OPS 89 mu nu := by
  unfold OPS
  rw [act_5 (by decide) (by decide) (by decide)]
  rw [md_i4 (by decide) (by decide)]
  exact fin_l (g_5 (op := nI 89) (d := 9) (rel_p1 h) (by decide) (by decide) (by unfold isSg; decide))
theorem op_90 {mu nu : Mu} (h : Rel mu nu) : OPS 90 mu nu := by
  unfold OPS
  rw [act_5 (by decide) (by decide) (by decide)]
  rw [md_i4 (by decide) (by decide)]
  exact fin_l (g_5 (op := nI 90) (d := 10) (rel_p1 h) (by decide) (by decide) (by unfold isSg; decide))
theorem op_91 {mu nu : Mu} (h : Rel mu nu) : OPS 91 mu nu := by
  unfold OPS
  rw [act_il (by decide) (by decide)]
  rw [md_i4 (by decide) (by decide)]
  exact fin_i h (by simp +decide only [F_Md_worksOnOne, F_Md_worksOnOne_42, F_Md_isSingle, F_Md_isSingle_26, ↓reduceIte])
theorem op_92 {mu nu : Mu} (h : Rel mu nu) : OPS 92 mu nu := by
  unfold OPS
  rw [act_5 (by decide) (by decide) (by decide)]
  rw [md_i4 (by decide) (by decide)]
  exact fin_l (g_5 (op := nI 92) (d := 12) (rel_p1 h) (by decide) (by decide) (by unfold isSg; decide))
theorem op_93 {mu nu : Mu} (h : Rel mu nu) : OPS 93 mu nu := by
  unfold OPS
  rw [act_5 (by decide) (by decide) (by decide)]
  rw [md_i4 (by decide) (by decide)]
  exact fin_l (g_5 (op := nI 93) (d := 13) (rel_p1 h) (by decide) (by decide) (by unfold isSg; decide))
theorem op_94 {mu nu : Mu} (h : Rel mu nu) : OPS 94 mu nu := by
  unfold OPS
  rw [act_il (by decide) (by decide)]
  rw [md_i4 (by decide) (by decide)]
  exact fin_i h (by simp +decide only [F_Md_worksOnOne, F_Md_worksOnOne_42, F_Md_isSingle, F_Md_isSingle_26, ↓reduceIte])
theorem op_95 {mu nu : Mu} (h : Rel mu nu) : OPS 95 mu nu := by
  unfold OPS
  rw [act_5 (by decide) (by decide) (by decide)]
  rw [md_i4 (by decide) (by decide)]
  exact fin_l (g_5 (op := nI 95) (d := 15) (rel_p1 h) (by decide) (by decide) (by unfold isSg; decide))
theorem op_96 {mu nu : Mu} (h : Rel mu nu) : OPS 96 mu nu := by
  unfold OPS
  rw [act_6 (by decide) (by decide) (by decide)]
  rw [md_i4 (by decide) (by decide)]
  exact fin_l (g_67 (op := nI 96) (d := 0) (w := 2) (t := 6) (rel_p1 h) (by decide) (by decide) (by unfold way; decide) (by decide) (by unfold isSg; decide))
theorem op_97 {mu nu : Mu} (h : Rel mu nu) : OPS 97 mu nu := by
  unfold OPS
  rw [act_il (by decide) (by decide)]
  rw [md_i4 (by decide) (by decide)]
  exact fin_i h (by simp +decide only [F_Md_worksOnOne, F_Md_worksOnOne_42, F_Md_isSingle, F_Md_isSingle_26, ↓reduceIte])
theorem op_98 {mu nu : Mu} (h : Rel mu nu) : OPS 98 mu nu := by
  unfold OPS
  rw [act_il (by decide) (by decide)]
  rw [md_i4 (by decide) (by decide)]
  exact fin_i h (by simp +decide only [F_Md_worksOnOne, F_Md_worksOnOne_42, F_Md_isSingle, F_Md_isSingle_26, ↓reduceIte])
theorem op_99 {mu nu : Mu} (h : Rel mu nu) : OPS 99 mu nu := by
  unfold OPS
  rw [act_6 (by decide) (by decide) (by decide)]
  rw [md_i4 (by decide) (by decide)]
  exact fin_l (g_67 (op := nI 99) (d := 3) (w := 2) (t := 6) (rel_p1 h) (by decide) (by decide) (by unfold way; decide) (by decide) (by unfold isSg; decide))
theorem op_100 {mu nu : Mu} (h : Rel mu nu) : OPS 100 mu nu := by
  unfold OPS
  rw [act_6 (by decide) (by decide) (by decide)]
  rw [md_i4 (by decide) (by decide)]
  exact fin_l (g_67 (op := nI 100) (d := 4) (w := 2) (t := 6) (rel_p1 h) (by decide) (by decide) (by unfold way; decide) (by decide) (by unfold isSg; decide))
theorem op_101 {mu nu : Mu} (h : Rel mu nu) : OPS 101 mu nu := by
  unfold OPS
  rw [act_il (by decide) (by decide)]
  rw [md_i4 (by decide) (by decide)]
  exact fin_i h (by simp +decide only [F_Md_worksOnOne, F_Md_worksOnOne_42, F_Md_isSingle, F_Md_isSingle_26, ↓reduceIte])
theorem op_102 {mu nu : Mu} (h : Rel mu nu) : OPS 102 mu nu := by
  unfold OPS
  rw [act_6 (by decide) (by decide) (by decide)]
  rw [md_i4 (by decide) (by decide)]
  exact fin_l (g_67 (op := nI 102) (d := 6) (w := 2) (t := 6) (rel_p1 h) (by decide) (by decide) (by unfold way; decide) (by decide) (by unfold isSg; decide))
theorem op_103 {mu nu : Mu} (h : Rel mu nu) : OPS 103 mu nu := by
  unfold OPS
  rw [act_6 (by decide) (by decide) (by decide)]
  rw [md_i4 (by decide) (by decide)]
  exact fin_l (g_67 (op := nI 103) (d := 7) (w := 2) (t := 6) (rel_p1 h) (by decide) (by decide) (by unfold way; decide) (by decide) (by unfold isSg; decide))
theorem op_104 {mu nu : Mu} (h : Rel mu nu) : OPS 104 mu nu := by
  unfold OPS
  rw [act_6 (by decide) (by decide) (by decide)]
  rw [md_i4 (by decide) (by decide)]
  exact fin_l (g_67 (op := nI 104) (d := 8) (w := 2) (t := 6) (rel_p1 h) (by decide) (by decide) (by unfold way; decide) (by decide) (by unfold isSg; decide))
theorem op_105 {mu nu : Mu} (h : Rel mu nu) : OPS 105 mu nu := by
  unfold OPS
  rw [act_6 (by decide) (by decide) (by decide)]
  rw [md_i4 (by decide) (by decide)]
  exact fin_l (g_67 (op := nI 105) (d := 9) (w := 2) (t := 6) (rel_p1 h) (by decide) (by decide) (by unfold way; decide) (by decide) (by unfold isSg; decide))
theorem op_106 {mu nu : Mu} (h : Rel mu nu) : OPS 106 mu nu := by
  unfold OPS
  rw [act_6 (by decide) (by decide) (by decide)]
  rw [md_i4 (by decide) (by decide)]
  exact fin_l (g_67 (op := nI 106) (d := 10) (w := 2) (t := 6) (rel_p1 h) (by decide) (by decide) (by unfold way; decide) (by decide) (by unfold isSg; decide))
theorem op_107 {mu nu : Mu} (h : Rel mu nu) : OPS 107 mu nu := by
  unfold OPS
  rw [act_il (by decide) (by decide)]
  rw [md_i4 (by decide) (by decide)]
  exact fin_i h (by simp +decide only [F_Md_worksOnOne, F_Md_worksOnOne_42, F_Md_isSingle, F_Md_isSingle_26, ↓reduceIte])
theorem op_108 {mu nu : Mu} (h : Rel mu nu) : OPS 108 mu nu := by
  unfold OPS
  rw [act_6 (by decide) (by decide) (by decide)]
  rw [md_i4 (by decide) (by decide)]
  exact fin_l (g_67 (op := nI 108) (d := 12) (w := 2) (t := 6) (rel_p1 h) (by decide) (by decide) (by unfold way; decide) (by decide) (by unfold isSg; decide))
theorem op_109 {mu nu : Mu} (h : Rel mu nu) : OPS 109 mu nu := by
  unfold OPS
  rw [act_6 (by decide) (by decide) (by decide)]
  rw [md_i4 (by decide) (by decide)]
  exact fin_l (g_67 (op := nI 109) (d := 13) (w := 2) (t := 6) (rel_p1 h) (by decide) (by decide) (by unfold way; decide) (by decide) (by unfold isSg; decide))
theorem op_110 {mu nu : Mu} (h : Rel mu nu) : OPS 110 mu nu := by
  unfold OPS
  rw [act_6 (by decide) (by decide) (by decide)]
  rw [md_i4 (by decide) (by decide)]
  exact fin_l (g_67 (op := nI 110) (d := 14) (w := 2) (t := 6) (rel_p1 h) (by decide) (by decide) (by unfold way; decide) (by decide) (by unfold isSg; decide))
theorem op_111 {mu nu : Mu} (h : Rel mu nu) : OPS 111 mu nu := by
  unfold OPS
  rw [act_6 (by decide) (by decide) (by decide)]
  rw [md_i4 (by decide) (by decide)]
  exact fin_l (g_67 (op := nI 111) (d := 15) (w := 2) (t := 6) (rel_p1 h) (by decide) (by decide) (by unfold way; decide) (by decide) (by unfold isSg; decide))
theorem op_112 {mu nu : Mu} (h : Rel mu nu) : OPS 112 mu nu := by
  unfold OPS
  rw [act_7 (by decide) (by decide) (by decide)]
  rw [md_i4 (by decide) (by decide)]
  exact fin_l (g_67 (op := nI 112) (d := 0) (w := 3) (t := 7) (rel_p1 h) (by decide) (by decide) (by unfold way; decide) (by decide) (by unfold isSg; decide))
theorem op_113 {mu nu : Mu} (h : Rel mu nu) : OPS 113 mu nu := by
  unfold OPS
  rw [act_il (by decide) (by decide)]
  rw [md_i4 (by decide) (by decide)]
  exact fin_i h (by simp +decide only [F_Md_worksOnOne, F_Md_worksOnOne_42, F_Md_isSingle, F_Md_isSingle_26, ↓reduceIte])
theorem op_114 {mu nu : Mu} (h : Rel mu nu) : OPS 114 mu nu := by
  unfold OPS
  rw [act_il (by decide) (by decide)]
  rw [md_i4 (by decide) (by decide)]
  exact fin_i h (by simp +decide only [F_Md_worksOnOne, F_Md_worksOnOne_42, F_Md_isSingle, F_Md_isSingle_26, ↓reduceIte])
theorem op_115 {mu nu : Mu} (h : Rel mu nu) : OPS 115 mu nu := by
  unfold OPS
  rw [act_7 (by decide) (by decide) (by decide)]
  rw [md_i4 (by decide) (by decide)]
  exact fin_l (g_67 (op := nI 115) (d := 3) (w := 3) (t := 7) (rel_p1 h) (by decide) (by decide) (by unfold way; decide) (by decide) (by unfold isSg; decide))
theorem op_116 {mu nu : Mu} (h : Rel mu nu) : OPS 116 mu nu := by
  unfold OPS
  rw [act_7 (by decide) (by decide) (by decide)]
  rw [md_i4 (by decide) (by decide)]
  exact fin_l (g_67 (op := nI 116) (d := 4) (w := 3) (t := 7) (rel_p1 h) (by decide) (by decide) (by unfold way; decide) (by decide) (by unfold isSg; decide))
theorem op_117 {mu nu : Mu} (h : Rel mu nu) : OPS 117 mu nu := by
  unfold OPS
  rw [act_il (by decide) (by decide)]
  rw [md_i4 (by decide) (by decide)]
  exact fin_i h (by simp +decide only [F_Md_worksOnOne, F_Md_worksOnOne_42, F_Md_isSingle, F_Md_isSingle_26, ↓reduceIte])
theorem op_118 {mu nu : Mu} (h : Rel mu nu) : OPS 118 mu nu := by
  unfold OPS
  rw [act_7 (by decide) (by decide) (by decide)]
  rw [md_i4 (by decide) (by decide)]
  exact fin_l (g_67 (op := nI 118) (d := 6) (w := 3) (t := 7) (rel_p1 h) (by decide) (by decide) (by unfold way; decide) (by decide) (by unfold isSg; decide))
theorem op_119 {mu nu : Mu} (h : Rel mu nu) : OPS 119 mu nu := by
  unfold OPS
  rw [act_7 (by decide) (by decide) (by decide)]
  rw [md_i4 (by decide) (by decide)]
  exact fin_l (g_67 (op := nI 119) (d := 7) (w := 3) (t := 7) (rel_p1 h) (by decide) (by decide) (by unfold way; decide) (by decide) (by unfold isSg; decide))
theorem op_120 {mu nu : Mu} (h : Rel mu nu) : OPS 120 mu nu := by
  unfold OPS
  rw [act_7 (by decide) (by decide) (by decide)]
  rw [md_i4 (by decide) (by decide)]
  exact fin_l (g_67 (op := nI 120) (d := 8) (w := 3) (t := 7) (rel_p1 h) (by decide) (by decide) (by unfold way; decide) (by decide) (by unfold isSg; decide))
theorem op_121 {mu nu : Mu} (h : Rel mu nu) : OPS 121 mu nu := by
  unfold OPS
  rw [act_7 (by decide) (by decide) (by decide)]
  rw [md_i4 (by decide) (by decide)]
  exact fin_l (g_67 (op := nI 121) (d := 9) (w := 3) (t := 7) (rel_p1 h) (by decide) (by decide) (by unfold way; decide) (by decide) (by unfold isSg; decide))
theorem op_122 {mu nu : Mu} (h : Rel mu nu) : OPS 122 mu nu := by
  unfold OPS
  rw [act_7 (by decide) (by decide) (by decide)]
  rw [md_i4 (by decide) (by decide)]
  exact fin_l (g_67 (op := nI 122) (d := 10) (w := 3) (t := 7) (rel_p1 h) (by decide) (by decide) (by unfold way; decide) (by decide) (by unfold isSg; decide))
theorem op_123 {mu nu : Mu} (h : Rel mu nu) : OPS 123 mu nu := by
  unfold OPS
  rw [act_il (by decide) (by decide)]
  rw [md_i4 (by decide) (by decide)]
  exact fin_i h (by simp +decide only [F_Md_worksOnOne, F_Md_worksOnOne_42, F_Md_isSingle, F_Md_isSingle_26, ↓reduceIte])
theorem op_124 {mu nu : Mu} (h : Rel mu nu) : OPS 124 mu nu := by
  unfold OPS
  rw [act_7 (by decide) (by decide) (by decide)]
  rw [md_i4 (by decide) (by decide)]
  exact fin_l (g_67 (op := nI 124) (d := 12) (w := 3) (t := 7) (rel_p1 h) (by decide) (by decide) (by unfold way; decide) (by decide) (by unfold isSg; decide))
theorem op_125 {mu nu : Mu} (h : Rel mu nu) : OPS 125 mu nu := by
  unfold OPS
  rw [act_7 (by decide) (by decide) (by decide)]
  rw [md_i4 (by decide) (by decide)]
  exact fin_l (g_67 (op := nI 125) (d := 13) (w := 3) (t := 7) (rel_p1 h) (by decide) (by decide) (by unfold way; decide) (by decide) (by unfold isSg; decide))
theorem op_126 {mu nu : Mu} (h : Rel mu nu) : OPS 126 mu nu := by
  unfold OPS
  rw [act_7 (by decide) (by decide) (by decide)]
  rw [md_i4 (by decide) (by decide)]
  exact fin_l (g_67 (op := nI 126) (d := 14) (w := 3) (t := 7) (rel_p1 h) (by decide) (by decide) (by unfold way; decide) (by decide) (by unfold isSg; decide))
theorem op_127 {mu nu : Mu} (h : Rel mu nu) : OPS 127 mu nu := by
  unfold OPS
  rw [act_7 (by decide) (by decide) (by decide)]
  rw [md_i4 (by decide) (by decide)]
  exact fin_l (g_67 (op := nI 127) (d := 15) (w := 3) (t := 7) (rel_p1 h) (by decide) (by decide) (by unfold way; decide) (by decide) (by unfold isSg; decide))
theorem op_128 {mu nu : Mu} (h : Rel mu nu) : OPS 128 mu nu := by
  unfold OPS
  rw [act_8 (by decide) (by decide) (by decide)]
  rw [md_i8 (by decide) (by decide)]
  exact fin_l (g_two (op := nI 128) (d := 0) (w := 0) (z := 0) (rel_p1 h) (by decide) (by unfold isTw; decide) (Or.inr ⟨by decide, rfl, fun _ => rfl⟩) (Or.inl rfl))
theorem op_129 {mu nu : Mu} (h : Rel mu nu) : OPS 129 mu nu := by
  unfold OPS
  rw [act_8 (by decide) (by decide) (by decide)]
  rw [md_i8 (by decide) (by decide)]
  exact fin_l (g_two (op := nI 129) (d := 1) (w := 0) (z := 0) (rel_p1 h) (by decide) (by unfold isTw; decide) (Or.inr ⟨by decide, rfl, fun _ => rfl⟩) (Or.inl rfl))
theorem op_130 {mu nu : Mu} (h : Rel mu nu) : OPS 130 mu nu := by
  unfold OPS
  rw [act_8 (by decide) (by decide) (by decide)]
  rw [md_i8 (by decide) (by decide)]
  exact fin_l (g_two (op := nI 130) (d := 2) (w := 0) (z := 0) (rel_p1 h) (by decide) (by unfold isTw; decide) (Or.inr ⟨by decide, rfl, fun _ => rfl⟩) (Or.inl rfl))
theorem op_131 {mu nu : Mu} (h : Rel mu nu) : OPS 131 mu nu := by
  unfold OPS
  rw [act_il (by decide) (by decide)]
  rw [md_i8 (by decide) (by decide)]
  exact fin_i h (by simp +decide only [F_Md_worksOnTwo_23, F_Md_withWords, F_Md_withWords_22, F_Md_withWords_48, F_Md_withWords_115, ↓reduceIte])
theorem op_132 {mu nu : Mu} (h : Rel mu nu) : OPS 132 mu nu := by
  unfold OPS
  rw [act_8 (by decide) (by decide) (by decide)]
  rw [md_i8 (by decide) (by decide)]
  exact fin_l (g_two (op := nI 132) (d := 4) (w := 0) (z := 0) (rel_p1 h) (by decide) (by unfold isTw; decide) (Or.inr ⟨by decide, rfl, fun _ => rfl⟩) (Or.inl rfl))
theorem op_133 {mu nu : Mu} (h : Rel mu nu) : OPS 133 mu nu := by
  unfold OPS
  rw [act_8 (by decide) (by decide) (by decide)]
  rw [md_i8 (by decide) (by decide)]
  exact fin_l (g_two (op := nI 133) (d := 5) (w := 0) (z := 0) (rel_p1 h) (by decide) (by unfold isTw; decide) (Or.inr ⟨by decide, rfl, fun _ => rfl⟩) (Or.inl rfl))
theorem op_134 {mu nu : Mu} (h : Rel mu nu) : OPS 134 mu nu := by
  unfold OPS
  rw [act_8 (by decide) (by decide) (by decide)]
  rw [md_i8 (by decide) (by decide)]
  exact fin_l (g_two (op := nI 134) (d := 6) (w := 0) (z := 0) (rel_p1 h) (by decide) (by unfold isTw; decide) (Or.inr ⟨by decide, rfl, fun _ => rfl⟩) (Or.inl rfl))
theorem op_135 {mu nu : Mu} (h : Rel mu nu) : OPS 135 mu nu := by
  unfold OPS
  rw [act_il (by decide) (by decide)]
  rw [md_i8 (by decide) (by decide)]
  exact fin_i h (by simp +decide only [F_Md_worksOnTwo_23, F_Md_withWords, F_Md_withWords_22, F_Md_withWords_48, F_Md_withWords_115, ↓reduceIte])
theorem op_136 {mu nu : Mu} (h : Rel mu nu) : OPS 136 mu nu := by
  unfold OPS
  rw [act_8 (by decide) (by decide) (by decide)]
  rw [md_i8 (by decide) (by decide)]
  exact fin_l (g_two (op := nI 136) (d := 8) (w := 0) (z := 0) (rel_p1 h) (by decide) (by unfold isTw; decide) (Or.inr ⟨by decide, rfl, fun _ => rfl⟩) (Or.inl rfl))
theorem op_137 {mu nu : Mu} (h : Rel mu nu) : OPS 137 mu nu := by
  unfold OPS
  rw [act_8 (by decide) (by decide) (by decide)]
  rw [md_i8 (by decide) (by decide)]
  exact fin_l (g_two (op := nI 137) (d := 9) (w := 0) (z := 0) (rel_p1 h) (by decide) (by unfold isTw; decide) (Or.inr ⟨by decide, rfl, fun _ => rfl⟩) (Or.inl rfl))
theorem op_138 {mu nu : Mu} (h : Rel mu nu) : OPS 138 mu nu := by
  unfold OPS
  rw [act_8 (by decide) (by decide) (by decide)]
  rw [md_i8 (by decide) (by decide)]
  exact fin_l (g_two (op := nI 138) (d := 10) (w := 0) (z := 0) (rel_p1 h) (by decide) (by unfold isTw; decide) (Or.inr ⟨by decide, rfl, fun _ => rfl⟩) (Or.inl rfl))
theorem op_139 {mu nu : Mu} (h : Rel mu nu) : OPS 139 mu nu := by
  unfold OPS
  rw [act_8 (by decide) (by decide) (by decide)]
  rw [md_i8 (by decide) (by decide)]
  exact fin_l (g_two (op := nI 139) (d := 11) (w := 0) (z := 0) (rel_p1 h) (by decide) (by unfold isTw; decide) (Or.inr ⟨by decide, rfl, fun _ => rfl⟩) (Or.inl rfl))
theorem op_140 {mu nu : Mu} (h : Rel mu nu) : OPS 140 mu nu := by
  unfold OPS
  rw [act_8 (by decide) (by decide) (by decide)]
  rw [md_i8 (by decide) (by decide)]
  exact fin_l (g_cpx (op := nI 140) (w := 0) (rel_p1 h) (by decide) (Or.inr ⟨by decide, rfl, fun _ => rfl⟩))
theorem op_141 {mu nu : Mu} (h : Rel mu nu) : OPS 141 mu nu := by
  unfold OPS
  rw [act_8 (by decide) (by decide) (by decide)]
  rw [md_i8 (by decide) (by decide)]
  exact fin_l (g_bsr (rel_p1 h))
theorem op_142 {mu nu : Mu} (h : Rel mu nu) : OPS 142 mu nu := by
  unfold OPS
  rw [act_8 (by decide) (by decide) (by decide)]
  rw [md_i8 (by decide) (by decide)]
  exact fin_l (g_ldw (op := nI 142) (w := 0) (z := 0) (rel_p1 h) (by decide) (Or.inr ⟨by decide, rfl, fun _ => rfl⟩) (Or.inl rfl))
theorem op_143 {mu nu : Mu} (h : Rel mu nu) : OPS 143 mu nu := by
  unfold OPS
  rw [act_il (by decide) (by decide)]
  rw [md_i8 (by decide) (by decide)]
  exact fin_i h (by simp +decide only [F_Md_worksOnTwo_23, F_Md_withWords, F_Md_withWords_22, F_Md_withWords_48, F_Md_withWords_115, ↓reduceIte])
theorem op_144 {mu nu : Mu} (h : Rel mu nu) : OPS 144 mu nu := by
  unfold OPS
  rw [act_9 (by decide) (by decide) (by decide)]
  rw [md_i8 (by decide) (by decide)]
  exact fin_l (g_two (op := nI 144) (d := 0) (w := 1) (z := 0) (rel_p1 h) (by decide) (by unfold isTw; decide) (Or.inl (by unfold way; decide)) (Or.inl rfl))
theorem op_145 {mu nu : Mu} (h : Rel mu nu) : OPS 145 mu nu := by
  unfold OPS
  rw [act_9 (by decide) (by decide) (by decide)]
  rw [md_i8 (by decide) (by decide)]
  exact fin_l (g_two (op := nI 145) (d := 1) (w := 1) (z := 0) (rel_p1 h) (by decide) (by unfold isTw; decide) (Or.inl (by unfold way; decide)) (Or.inl rfl))
theorem op_146 {mu nu : Mu} (h : Rel mu nu) : OPS 146 mu nu := by
  unfold OPS
  rw [act_9 (by decide) (by decide) (by decide)]
  rw [md_i8 (by decide) (by decide)]
  exact fin_l (g_two (op := nI 146) (d := 2) (w := 1) (z := 0) (rel_p1 h) (by decide) (by unfold isTw; decide) (Or.inl (by unfold way; decide)) (Or.inl rfl))
theorem op_147 {mu nu : Mu} (h : Rel mu nu) : OPS 147 mu nu := by
  unfold OPS
  rw [act_il (by decide) (by decide)]
  rw [md_i8 (by decide) (by decide)]
  exact fin_i h (by simp +decide only [F_Md_worksOnTwo_23, F_Md_withWords, F_Md_withWords_22, F_Md_withWords_48, F_Md_withWords_115, ↓reduceIte])
theorem op_148 {mu nu : Mu} (h : Rel mu nu) : OPS 148 mu nu := by
  unfold OPS
  rw [act_9 (by decide) (by decide) (by decide)]
  rw [md_i8 (by decide) (by decide)]
  exact fin_l (g_two (op := nI 148) (d := 4) (w := 1) (z := 0) (rel_p1 h) (by decide) (by unfold isTw; decide) (Or.inl (by unfold way; decide)) (Or.inl rfl))
theorem op_149 {mu nu : Mu} (h : Rel mu nu) : OPS 149 mu nu := by
  unfold OPS
  rw [act_9 (by decide) (by decide) (by decide)]
  rw [md_i8 (by decide) (by decide)]
  exact fin_l (g_two (op := nI 149) (d := 5) (w := 1) (z := 0) (rel_p1 h) (by decide) (by unfold isTw; decide) (Or.inl (by unfold way; decide)) (Or.inl rfl))
theorem op_150 {mu nu : Mu} (h : Rel mu nu) : OPS 150 mu nu := by
  unfold OPS
  rw [act_9 (by decide) (by decide) (by decide)]
  rw [md_i8 (by decide) (by decide)]
  exact fin_l (g_two (op := nI 150) (d := 6) (w := 1) (z := 0) (rel_p1 h) (by decide) (by unfold isTw; decide) (Or.inl (by unfold way; decide)) (Or.inl rfl))
theorem op_151 {mu nu : Mu} (h : Rel mu nu) : OPS 151 mu nu := by
  unfold OPS
  rw [act_9 (by decide) (by decide) (by decide)]
  rw [md_i8 (by decide) (by decide)]
  exact fin_l (g_sta (op := nI 151) (w := 1) (z := 0) (rel_p1 h) (by decide) (by unfold way; decide) (Or.inl rfl))
theorem op_152 {mu nu : Mu} (h : Rel mu nu) : OPS 152 mu nu := by
  unfold OPS
  rw [act_9 (by decide) (by decide) (by decide)]
  rw [md_i8 (by decide) (by decide)]
  exact fin_l (g_two (op := nI 152) (d := 8) (w := 1) (z := 0) (rel_p1 h) (by decide) (by unfold isTw; decide) (Or.inl (by unfold way; decide)) (Or.inl rfl))
theorem op_153 {mu nu : Mu} (h : Rel mu nu) : OPS 153 mu nu := by
  unfold OPS
  rw [act_9 (by decide) (by decide) (by decide)]
  rw [md_i8 (by decide) (by decide)]
  exact fin_l (g_two (op := nI 153) (d := 9) (w := 1) (z := 0) (rel_p1 h) (by decide) (by unfold isTw; decide) (Or.inl (by unfold way; decide)) (Or.inl rfl))
theorem op_154 {mu nu : Mu} (h : Rel mu nu) : OPS 154 mu nu := by
  unfold OPS
  rw [act_9 (by decide) (by decide) (by decide)]
  rw [md_i8 (by decide) (by decide)]
  exact fin_l (g_two (op := nI 154) (d := 10) (w := 1) (z := 0) (rel_p1 h) (by decide) (by unfold isTw; decide) (Or.inl (by unfold way; decide)) (Or.inl rfl))
theorem op_155 {mu nu : Mu} (h : Rel mu nu) : OPS 155 mu nu := by
  unfold OPS
  rw [act_9 (by decide) (by decide) (by decide)]
  rw [md_i8 (by decide) (by decide)]
  exact fin_l (g_two (op := nI 155) (d := 11) (w := 1) (z := 0) (rel_p1 h) (by decide) (by unfold isTw; decide) (Or.inl (by unfold way; decide)) (Or.inl rfl))
theorem op_156 {mu nu : Mu} (h : Rel mu nu) : OPS 156 mu nu := by
  unfold OPS
  rw [act_9 (by decide) (by decide) (by decide)]
  rw [md_i8 (by decide) (by decide)]
  exact fin_l (g_cpx (op := nI 156) (w := 1) (rel_p1 h) (by decide) (Or.inl (by unfold way; decide)))
theorem op_157 {mu nu : Mu} (h : Rel mu nu) : OPS 157 mu nu := by
  unfold OPS
  rw [act_il (by decide) (by decide)]
  rw [md_i8 (by decide) (by decide)]
  exact fin_i h (by simp +decide only [F_Md_worksOnTwo_23, F_Md_withWords, F_Md_withWords_22, F_Md_withWords_48, F_Md_withWords_115, ↓reduceIte])
theorem op_158 {mu nu : Mu} (h : Rel mu nu) : OPS 158 mu nu := by
  unfold OPS
  rw [act_9 (by decide) (by decide) (by decide)]
  rw [md_i8 (by decide) (by decide)]
  exact fin_l (g_ldw (op := nI 158) (w := 1) (z := 0) (rel_p1 h) (by decide) (Or.inl (by unfold way; decide)) (Or.inl rfl))
theorem op_159 {mu nu : Mu} (h : Rel mu nu) : OPS 159 mu nu := by
  unfold OPS
  rw [act_9 (by decide) (by decide) (by decide)]
  rw [md_i8 (by decide) (by decide)]
  exact fin_l (g_stw (op := nI 159) (w := 1) (z := 0) (rel_p1 h) (by decide) (by unfold way; decide) (Or.inl rfl))
theorem op_160 {mu nu : Mu} (h : Rel mu nu) : OPS 160 mu nu := by
  unfold OPS
  rw [act_10 (by decide) (by decide) (by decide)]
  rw [md_i8 (by decide) (by decide)]
  exact fin_l (g_two (op := nI 160) (d := 0) (w := 2) (z := 0) (rel_p1 h) (by decide) (by unfold isTw; decide) (Or.inl (by unfold way; decide)) (Or.inl rfl))
theorem op_161 {mu nu : Mu} (h : Rel mu nu) : OPS 161 mu nu := by
  unfold OPS
  rw [act_10 (by decide) (by decide) (by decide)]
  rw [md_i8 (by decide) (by decide)]
  exact fin_l (g_two (op := nI 161) (d := 1) (w := 2) (z := 0) (rel_p1 h) (by decide) (by unfold isTw; decide) (Or.inl (by unfold way; decide)) (Or.inl rfl))
theorem op_162 {mu nu : Mu} (h : Rel mu nu) : OPS 162 mu nu := by
  unfold OPS
  rw [act_10 (by decide) (by decide) (by decide)]
  rw [md_i8 (by decide) (by decide)]
  exact fin_l (g_two (op := nI 162) (d := 2) (w := 2) (z := 0) (rel_p1 h) (by decide) (by unfold isTw; decide) (Or.inl (by unfold way; decide)) (Or.inl rfl))
theorem op_163 {mu nu : Mu} (h : Rel mu nu) : OPS 163 mu nu := by
  unfold OPS
  rw [act_il (by decide) (by decide)]
  rw [md_i8 (by decide) (by decide)]
  exact fin_i h (by simp +decide only [F_Md_worksOnTwo_23, F_Md_withWords, F_Md_withWords_22, F_Md_withWords_48, F_Md_withWords_115, ↓reduceIte])
theorem op_164 {mu nu : Mu} (h : Rel mu nu) : OPS 164 mu nu := by
  unfold OPS
  rw [act_10 (by decide) (by decide) (by decide)]
  rw [md_i8 (by decide) (by decide)]
  exact fin_l (g_two (op := nI 164) (d := 4) (w := 2) (z := 0) (rel_p1 h) (by decide) (by unfold isTw; decide) (Or.inl (by unfold way; decide)) (Or.inl rfl))
theorem op_165 {mu nu : Mu} (h : Rel mu nu) : OPS 165 mu nu := by
  unfold OPS
  rw [act_10 (by decide) (by decide) (by decide)]
  rw [md_i8 (by decide) (by decide)]
  exact fin_l (g_two (op := nI 165) (d := 5) (w := 2) (z := 0) (rel_p1 h) (by decide) (by unfold isTw; decide) (Or.inl (by unfold way; decide)) (Or.inl rfl))
theorem op_166 {mu nu : Mu} (h : Rel mu nu) : OPS 166 mu nu := by
  unfold OPS
  rw [act_10 (by decide) (by decide) (by decide)]
  rw [md_i8 (by decide) (by decide)]
  exact fin_l (g_two (op := nI 166) (d := 6) (w := 2) (z := 0) (rel_p1 h) (by decide) (by unfold isTw; decide) (Or.inl (by unfold way; decide)) (Or.inl rfl))
theorem op_167 {mu nu : Mu} (h : Rel mu nu) : OPS 167 mu nu := by
  unfold OPS
  rw [act_10 (by decide) (by decide) (by decide)]
  rw [md_i8 (by decide) (by decide)]
  exact fin_l (g_sta (op := nI 167) (w := 2) (z := 0) (rel_p1 h) (by decide) (by unfold way; decide) (Or.inl rfl))
theorem op_168 {mu nu : Mu} (h : Rel mu nu) : OPS 168 mu nu := by
  unfold OPS
  rw [act_10 (by decide) (by decide) (by decide)]
  rw [md_i8 (by decide) (by decide)]
  exact fin_l (g_two (op := nI 168) (d := 8) (w := 2) (z := 0) (rel_p1 h) (by decide) (by unfold isTw; decide) (Or.inl (by unfold way; decide)) (Or.inl rfl))
theorem op_169 {mu nu : Mu} (h : Rel mu nu) : OPS 169 mu nu := by
  unfold OPS
  rw [act_10 (by decide) (by decide) (by decide)]
  rw [md_i8 (by decide) (by decide)]
  exact fin_l (g_two (op := nI 169) (d := 9) (w := 2) (z := 0) (rel_p1 h) (by decide) (by unfold isTw; decide) (Or.inl (by unfold way; decide)) (Or.inl rfl))
theorem op_170 {mu nu : Mu} (h : Rel mu nu) : OPS 170 mu nu := by
  unfold OPS
  rw [act_10 (by decide) (by decide) (by decide)]
  rw [md_i8 (by decide) (by decide)]
  exact fin_l (g_two (op := nI 170) (d := 10) (w := 2) (z := 0) (rel_p1 h) (by decide) (by unfold isTw; decide) (Or.inl (by unfold way; decide)) (Or.inl rfl))
theorem op_171 {mu nu : Mu} (h : Rel mu nu) : OPS 171 mu nu := by
  unfold OPS
  rw [act_10 (by decide) (by decide) (by decide)]
  rw [md_i8 (by decide) (by decide)]
  exact fin_l (g_two (op := nI 171) (d := 11) (w := 2) (z := 0) (rel_p1 h) (by decide) (by unfold isTw; decide) (Or.inl (by unfold way; decide)) (Or.inl rfl))
theorem op_172 {mu nu : Mu} (h : Rel mu nu) : OPS 172 mu nu := by
  unfold OPS
  rw [act_10 (by decide) (by decide) (by decide)]
  rw [md_i8 (by decide) (by decide)]
  exact fin_l (g_cpx (op := nI 172) (w := 2) (rel_p1 h) (by decide) (Or.inl (by unfold way; decide)))
theorem op_173 {mu nu : Mu} (h : Rel mu nu) : OPS 173 mu nu := by
  unfold OPS
  rw [act_10 (by decide) (by decide) (by decide)]
  rw [md_i8 (by decide) (by decide)]
  exact fin_l (g_call (op := nI 173) (w := 2) (rel_p1 h) (by decide) (by decide) (by unfold way; decide) (by decide))
theorem op_174 {mu nu : Mu} (h : Rel mu nu) : OPS 174 mu nu := by
  unfold OPS
  rw [act_10 (by decide) (by decide) (by decide)]
  rw [md_i8 (by decide) (by decide)]
  exact fin_l (g_ldw (op := nI 174) (w := 2) (z := 0) (rel_p1 h) (by decide) (Or.inl (by unfold way; decide)) (Or.inl rfl))
theorem op_175 {mu nu : Mu} (h : Rel mu nu) : OPS 175 mu nu := by
  unfold OPS
  rw [act_10 (by decide) (by decide) (by decide)]
  rw [md_i8 (by decide) (by decide)]
  exact fin_l (g_stw (op := nI 175) (w := 2) (z := 0) (rel_p1 h) (by decide) (by unfold way; decide) (Or.inl rfl))
theorem op_176 {mu nu : Mu} (h : Rel mu nu) : OPS 176 mu nu := by
  unfold OPS
  rw [act_11 (by decide) (by decide) (by decide)]
  rw [md_i8 (by decide) (by decide)]
  exact fin_l (g_two (op := nI 176) (d := 0) (w := 3) (z := 0) (rel_p1 h) (by decide) (by unfold isTw; decide) (Or.inl (by unfold way; decide)) (Or.inl rfl))
theorem op_177 {mu nu : Mu} (h : Rel mu nu) : OPS 177 mu nu := by
  unfold OPS
  rw [act_11 (by decide) (by decide) (by decide)]
  rw [md_i8 (by decide) (by decide)]
  exact fin_l (g_two (op := nI 177) (d := 1) (w := 3) (z := 0) (rel_p1 h) (by decide) (by unfold isTw; decide) (Or.inl (by unfold way; decide)) (Or.inl rfl))
theorem op_178 {mu nu : Mu} (h : Rel mu nu) : OPS 178 mu nu := by
  unfold OPS
  rw [act_11 (by decide) (by decide) (by decide)]
  rw [md_i8 (by decide) (by decide)]
  exact fin_l (g_two (op := nI 178) (d := 2) (w := 3) (z := 0) (rel_p1 h) (by decide) (by unfold isTw; decide) (Or.inl (by unfold way; decide)) (Or.inl rfl))
theorem op_179 {mu nu : Mu} (h : Rel mu nu) : OPS 179 mu nu := by
  unfold OPS
  rw [act_il (by decide) (by decide)]
  rw [md_i8 (by decide) (by decide)]
  exact fin_i h (by simp +decide only [F_Md_worksOnTwo_23, F_Md_withWords, F_Md_withWords_22, F_Md_withWords_48, F_Md_withWords_115, ↓reduceIte])
theorem op_180 {mu nu : Mu} (h : Rel mu nu) : OPS 180 mu nu := by
  unfold OPS
  rw [act_11 (by decide) (by decide) (by decide)]
  rw [md_i8 (by decide) (by decide)]
  exact fin_l (g_two (op := nI 180) (d := 4) (w := 3) (z := 0) (rel_p1 h) (by decide) (by unfold isTw; decide) (Or.inl (by unfold way; decide)) (Or.inl rfl))
theorem op_181 {mu nu : Mu} (h : Rel mu nu) : OPS 181 mu nu := by
  unfold OPS
  rw [act_11 (by decide) (by decide) (by decide)]
  rw [md_i8 (by decide) (by decide)]
  exact fin_l (g_two (op := nI 181) (d := 5) (w := 3) (z := 0) (rel_p1 h) (by decide) (by unfold isTw; decide) (Or.inl (by unfold way; decide)) (Or.inl rfl))
theorem op_182 {mu nu : Mu} (h : Rel mu nu) : OPS 182 mu nu := by
  unfold OPS
  rw [act_11 (by decide) (by decide) (by decide)]
  rw [md_i8 (by decide) (by decide)]
  exact fin_l (g_two (op := nI 182) (d := 6) (w := 3) (z := 0) (rel_p1 h) (by decide) (by unfold isTw; decide) (Or.inl (by unfold way; decide)) (Or.inl rfl))
theorem op_183 {mu nu : Mu} (h : Rel mu nu) : OPS 183 mu nu := by
  unfold OPS
  rw [act_11 (by decide) (by decide) (by decide)]
  rw [md_i8 (by decide) (by decide)]
  exact fin_l (g_sta (op := nI 183) (w := 3) (z := 0) (rel_p1 h) (by decide) (by unfold way; decide) (Or.inl rfl))
theorem op_184 {mu nu : Mu} (h : Rel mu nu) : OPS 184 mu nu := by
  unfold OPS
  rw [act_11 (by decide) (by decide) (by decide)]
  rw [md_i8 (by decide) (by decide)]
  exact fin_l (g_two (op := nI 184) (d := 8) (w := 3) (z := 0) (rel_p1 h) (by decide) (by unfold isTw; decide) (Or.inl (by unfold way; decide)) (Or.inl rfl))
theorem op_185 {mu nu : Mu} (h : Rel mu nu) : OPS 185 mu nu := by
  unfold OPS
  rw [act_11 (by decide) (by decide) (by decide)]
  rw [md_i8 (by decide) (by decide)]
  exact fin_l (g_two (op := nI 185) (d := 9) (w := 3) (z := 0) (rel_p1 h) (by decide) (by unfold isTw; decide) (Or.inl (by unfold way; decide)) (Or.inl rfl))
theorem op_186 {mu nu : Mu} (h : Rel mu nu) : OPS 186 mu nu := by
  unfold OPS
  rw [act_11 (by decide) (by decide) (by decide)]
  rw [md_i8 (by decide) (by decide)]
  exact fin_l (g_two (op := nI 186) (d := 10) (w := 3) (z := 0) (rel_p1 h) (by decide) (by unfold isTw; decide) (Or.inl (by unfold way; decide)) (Or.inl rfl))
theorem op_187 {mu nu : Mu} (h : Rel mu nu) : OPS 187 mu nu := by
  unfold OPS
  rw [act_11 (by decide) (by decide) (by decide)]
  rw [md_i8 (by decide) (by decide)]
  exact fin_l (g_two (op := nI 187) (d := 11) (w := 3) (z := 0) (rel_p1 h) (by decide) (by unfold isTw; decide) (Or.inl (by unfold way; decide)) (Or.inl rfl))
theorem op_188 {mu nu : Mu} (h : Rel mu nu) : OPS 188 mu nu := by
  unfold OPS
  rw [act_11 (by decide) (by decide) (by decide)]
  rw [md_i8 (by decide) (by decide)]
  exact fin_l (g_cpx (op := nI 188) (w := 3) (rel_p1 h) (by decide) (Or.inl (by unfold way; decide)))
theorem op_189 {mu nu : Mu} (h : Rel mu nu) : OPS 189 mu nu := by
  unfold OPS
  rw [act_11 (by decide) (by decide) (by decide)]
  rw [md_i8 (by decide) (by decide)]
  exact fin_l (g_call (op := nI 189) (w := 3) (rel_p1 h) (by decide) (by decide) (by unfold way; decide) (by decide))
theorem op_190 {mu nu : Mu} (h : Rel mu nu) : OPS 190 mu nu := by
  unfold OPS
  rw [act_11 (by decide) (by decide) (by decide)]
  rw [md_i8 (by decide) (by decide)]
  exact fin_l (g_ldw (op := nI 190) (w := 3) (z := 0) (rel_p1 h) (by decide) (Or.inl (by unfold way; decide)) (Or.inl rfl))
theorem op_191 {mu nu : Mu} (h : Rel mu nu) : OPS 191 mu nu := by
  unfold OPS
  rw [act_11 (by decide) (by decide) (by decide)]
  rw [md_i8 (by decide) (by decide)]
  exact fin_l (g_stw (op := nI 191) (w := 3) (z := 0) (rel_p1 h) (by decide) (by unfold way; decide) (Or.inl rfl))
theorem op_192 {mu nu : Mu} (h : Rel mu nu) : OPS 192 mu nu := by
  unfold OPS
  rw [act_12 (by decide) (by decide) (by decide)]
  rw [md_i8 (by decide) (by decide)]
  exact fin_l (g_two (op := nI 192) (d := 0) (w := 0) (z := 1) (rel_p1 h) (by decide) (by unfold isTw; decide) (Or.inr ⟨by decide, rfl, fun _ => rfl⟩) (Or.inr rfl))
theorem op_193 {mu nu : Mu} (h : Rel mu nu) : OPS 193 mu nu := by
  unfold OPS
  rw [act_12 (by decide) (by decide) (by decide)]
  rw [md_i8 (by decide) (by decide)]
  exact fin_l (g_two (op := nI 193) (d := 1) (w := 0) (z := 1) (rel_p1 h) (by decide) (by unfold isTw; decide) (Or.inr ⟨by decide, rfl, fun _ => rfl⟩) (Or.inr rfl))
theorem op_194 {mu nu : Mu} (h : Rel mu nu) : OPS 194 mu nu := by
  unfold OPS
  rw [act_12 (by decide) (by decide) (by decide)]
  rw [md_i8 (by decide) (by decide)]
  exact fin_l (g_two (op := nI 194) (d := 2) (w := 0) (z := 1) (rel_p1 h) (by decide) (by unfold isTw; decide) (Or.inr ⟨by decide, rfl, fun _ => rfl⟩) (Or.inr rfl))
theorem op_195 {mu nu : Mu} (h : Rel mu nu) : OPS 195 mu nu := by
  unfold OPS
  rw [act_il (by decide) (by decide)]
  rw [md_i8 (by decide) (by decide)]
  exact fin_i h (by simp +decide only [F_Md_worksOnTwo_23, F_Md_withWords, F_Md_withWords_22, F_Md_withWords_48, F_Md_withWords_115, ↓reduceIte])
theorem op_196 {mu nu : Mu} (h : Rel mu nu) : OPS 196 mu nu := by
  unfold OPS
  rw [act_12 (by decide) (by decide) (by decide)]
  rw [md_i8 (by decide) (by decide)]
  exact fin_l (g_two (op := nI 196) (d := 4) (w := 0) (z := 1) (rel_p1 h) (by decide) (by unfold isTw; decide) (Or.inr ⟨by decide, rfl, fun _ => rfl⟩) (Or.inr rfl))
theorem op_197 {mu nu : Mu} (h : Rel mu nu) : OPS 197 mu nu := by
  unfold OPS
  rw [act_12 (by decide) (by decide) (by decide)]
  rw [md_i8 (by decide) (by decide)]
  exact fin_l (g_two (op := nI 197) (d := 5) (w := 0) (z := 1) (rel_p1 h) (by decide) (by unfold isTw; decide) (Or.inr ⟨by decide, rfl, fun _ => rfl⟩) (Or.inr rfl))
theorem op_198 {mu nu : Mu} (h : Rel mu nu) : OPS 198 mu nu := by
  unfold OPS
  rw [act_12 (by decide) (by decide) (by decide)]
  rw [md_i8 (by decide) (by decide)]
  exact fin_l (g_two (op := nI 198) (d := 6) (w := 0) (z := 1) (rel_p1 h) (by decide) (by unfold isTw; decide) (Or.inr ⟨by decide, rfl, fun _ => rfl⟩) (Or.inr rfl))
theorem op_199 {mu nu : Mu} (h : Rel mu nu) : OPS 199 mu nu := by
  unfold OPS
  rw [act_il (by decide) (by decide)]
  rw [md_i8 (by decide) (by decide)]
  exact fin_i h (by simp +decide only [F_Md_worksOnTwo_23, F_Md_withWords, F_Md_withWords_22, F_Md_withWords_48, F_Md_withWords_115, ↓reduceIte])
theorem op_200 {mu nu : Mu} (h : Rel mu nu) : OPS 200 mu nu := by
  unfold OPS
  rw [act_12 (by decide) (by decide) (by decide)]
  rw [md_i8 (by decide) (by decide)]
  exact fin_l (g_two (op := nI 200) (d := 8) (w := 0) (z := 1) (rel_p1 h) (by decide) (by unfold isTw; decide) (Or.inr ⟨by decide, rfl, fun _ => rfl⟩) (Or.inr rfl))
theorem op_201 {mu nu : Mu} (h : Rel mu nu) : OPS 201 mu nu := by
  unfold OPS
  rw [act_12 (by decide) (by decide) (by decide)]
  rw [md_i8 (by decide) (by decide)]
  exact fin_l (g_two (op := nI 201) (d := 9) (w := 0) (z := 1) (rel_p1 h) (by decide) (by unfold isTw; decide) (Or.inr ⟨by decide, rfl, fun _ => rfl⟩) (Or.inr rfl))
theorem op_202 {mu nu : Mu} (h : Rel mu nu) : OPS 202 mu nu := by
  unfold OPS
  rw [act_12 (by decide) (by decide) (by decide)]
  rw [md_i8 (by decide) (by decide)]
  exact fin_l (g_two (op := nI 202) (d := 10) (w := 0) (z := 1) (rel_p1 h) (by decide) (by unfold isTw; decide) (Or.inr ⟨by decide, rfl, fun _ => rfl⟩) (Or.inr rfl))
theorem op_203 {mu nu : Mu} (h : Rel mu nu) : OPS 203 mu nu := by
  unfold OPS
  rw [act_12 (by decide) (by decide) (by decide)]
  rw [md_i8 (by decide) (by decide)]
  exact fin_l (g_two (op := nI 203) (d := 11) (w := 0) (z := 1) (rel_p1 h) (by decide) (by unfold isTw; decide) (Or.inr ⟨by decide, rfl, fun _ => rfl⟩) (Or.inr rfl))
theorem op_204 {mu nu : Mu} (h : Rel mu nu) : OPS 204 mu nu := by
  unfold OPS
  rw [act_il (by decide) (by decide)]
  rw [md_i8 (by decide) (by decide)]
  exact fin_i h (by simp +decide only [F_Md_worksOnTwo_23, F_Md_withWords, F_Md_withWords_22, F_Md_withWords_48, F_Md_withWords_115, ↓reduceIte])
theorem op_205 {mu nu : Mu} (h : Rel mu nu) : OPS 205 mu nu := by
  unfold OPS
  rw [act_il (by decide) (by decide)]
  rw [md_i8 (by decide) (by decide)]
  exact fin_i h (by simp +decide only [F_Md_worksOnTwo_23, F_Md_withWords, F_Md_withWords_22, F_Md_withWords_48, F_Md_withWords_115, ↓reduceIte])
theorem op_206 {mu nu : Mu} (h : Rel mu nu) : OPS 206 mu nu := by
  unfold OPS
  rw [act_12 (by decide) (by decide) (by decide)]
  rw [md_i8 (by decide) (by decide)]
  exact fin_l (g_ldw (op := nI 206) (w := 0) (z := 1) (rel_p1 h) (by decide) (Or.inr ⟨by decide, rfl, fun _ => rfl⟩) (Or.inr rfl))
theorem op_207 {mu nu : Mu} (h : Rel mu nu) : OPS 207 mu nu := by
  unfold OPS
  rw [act_il (by decide) (by decide)]
  rw [md_i8 (by decide) (by decide)]
  exact fin_i h (by simp +decide only [F_Md_worksOnTwo_23, F_Md_withWords, F_Md_withWords_22, F_Md_withWords_48, F_Md_withWords_115, ↓reduceIte])
theorem op_208 {mu nu : Mu} (h : Rel mu nu) : OPS 208 mu nu := by
  unfold OPS
  rw [act_13 (by decide) (by decide) (by decide)]
  rw [md_i8 (by decide) (by decide)]
  exact fin_l (g_two (op := nI 208) (d := 0) (w := 1) (z := 1) (rel_p1 h) (by decide) (by unfold isTw; decide) (Or.inl (by unfold way; decide)) (Or.inr rfl))
theorem op_209 {mu nu : Mu} (h : Rel mu nu) : OPS 209 mu nu := by
  unfold OPS
  rw [act_13 (by decide) (by decide) (by decide)]
  rw [md_i8 (by decide) (by decide)]
  exact fin_l (g_two (op := nI 209) (d := 1) (w := 1) (z := 1) (rel_p1 h) (by decide) (by unfold isTw; decide) (Or.inl (by unfold way; decide)) (Or.inr rfl))
theorem op_210 {mu nu : Mu} (h : Rel mu nu) : OPS 210 mu nu := by
  unfold OPS
  rw [act_13 (by decide) (by decide) (by decide)]
  rw [md_i8 (by decide) (by decide)]
  exact fin_l (g_two (op := nI 210) (d := 2) (w := 1) (z := 1) (rel_p1 h) (by decide) (by unfold isTw; decide) (Or.inl (by unfold way; decide)) (Or.inr rfl))
theorem op_211 {mu nu : Mu} (h : Rel mu nu) : OPS 211 mu nu := by
  unfold OPS
  rw [act_il (by decide) (by decide)]
  rw [md_i8 (by decide) (by decide)]
  exact fin_i h (by simp +decide only [F_Md_worksOnTwo_23, F_Md_withWords, F_Md_withWords_22, F_Md_withWords_48, F_Md_withWords_115, ↓reduceIte])
theorem op_212 {mu nu : Mu} (h : Rel mu nu) : OPS 212 mu nu := by
  unfold OPS
  rw [act_13 (by decide) (by decide) (by decide)]
  rw [md_i8 (by decide) (by decide)]
  exact fin_l (g_two (op := nI 212) (d := 4) (w := 1) (z := 1) (rel_p1 h) (by decide) (by unfold isTw; decide) (Or.inl (by unfold way; decide)) (Or.inr rfl))
theorem op_213 {mu nu : Mu} (h : Rel mu nu) : OPS 213 mu nu := by
  unfold OPS
  rw [act_13 (by decide) (by decide) (by decide)]
  rw [md_i8 (by decide) (by decide)]
  exact fin_l (g_two (op := nI 213) (d := 5) (w := 1) (z := 1) (rel_p1 h) (by decide) (by unfold isTw; decide) (Or.inl (by unfold way; decide)) (Or.inr rfl))
theorem op_214 {mu nu : Mu} (h : Rel mu nu) : OPS 214 mu nu := by
  unfold OPS
  rw [act_13 (by decide) (by decide) (by decide)]
  rw [md_i8 (by decide) (by decide)]
  exact fin_l (g_two (op := nI 214) (d := 6) (w := 1) (z := 1) (rel_p1 h) (by decide) (by unfold isTw; decide) (Or.inl (by unfold way; decide)) (Or.inr rfl))
theorem op_215 {mu nu : Mu} (h : Rel mu nu) : OPS 215 mu nu := by
  unfold OPS
  rw [act_13 (by decide) (by decide) (by decide)]
  rw [md_i8 (by decide) (by decide)]
  exact fin_l (g_sta (op := nI 215) (w := 1) (z := 1) (rel_p1 h) (by decide) (by unfold way; decide) (Or.inr rfl))
theorem op_216 {mu nu : Mu} (h : Rel mu nu) : OPS 216 mu nu := by
  unfold OPS
  rw [act_13 (by decide) (by decide) (by decide)]
  rw [md_i8 (by decide) (by decide)]
  exact fin_l (g_two (op := nI 216) (d := 8) (w := 1) (z := 1) (rel_p1 h) (by decide) (by unfold isTw; decide) (Or.inl (by unfold way; decide)) (Or.inr rfl))
theorem op_217 {mu nu : Mu} (h : Rel mu nu) : OPS 217 mu nu := by
  unfold OPS
  rw [act_13 (by decide) (by decide) (by decide)]
  rw [md_i8 (by decide) (by decide)]
  exact fin_l (g_two (op := nI 217) (d := 9) (w := 1) (z := 1) (rel_p1 h) (by decide) (by unfold isTw; decide) (Or.inl (by unfold way; decide)) (Or.inr rfl))
theorem op_218 {mu nu : Mu} (h : Rel mu nu) : OPS 218 mu nu := by
  unfold OPS
  rw [act_13 (by decide) (by decide) (by decide)]
  rw [md_i8 (by decide) (by decide)]
  exact fin_l (g_two (op := nI 218) (d := 10) (w := 1) (z := 1) (rel_p1 h) (by decide) (by unfold isTw; decide) (Or.inl (by unfold way; decide)) (Or.inr rfl))
theorem op_219 {mu nu : Mu} (h : Rel mu nu) : OPS 219 mu nu := by
  unfold OPS
  rw [act_13 (by decide) (by decide) (by decide)]
  rw [md_i8 (by decide) (by decide)]
  exact fin_l (g_two (op := nI 219) (d := 11) (w := 1) (z := 1) (rel_p1 h) (by decide) (by unfold isTw; decide) (Or.inl (by unfold way; decide)) (Or.inr rfl))
theorem op_220 {mu nu : Mu} (h : Rel mu nu) : OPS 220 mu nu := by
  unfold OPS
  rw [act_il (by decide) (by decide)]
  rw [md_i8 (by decide) (by decide)]
  exact fin_i h (by simp +decide only [F_Md_worksOnTwo_23, F_Md_withWords, F_Md_withWords_22, F_Md_withWords_48, F_Md_withWords_115, ↓reduceIte])
theorem op_221 {mu nu : Mu} (h : Rel mu nu) : OPS 221 mu nu := by
  unfold OPS
  rw [act_il (by decide) (by decide)]
  rw [md_i8 (by decide) (by decide)]
  exact fin_i h (by simp +decide only [F_Md_worksOnTwo_23, F_Md_withWords, F_Md_withWords_22, F_Md_withWords_48, F_Md_withWords_115, ↓reduceIte])
theorem op_222 {mu nu : Mu} (h : Rel mu nu) : OPS 222 mu nu := by
  unfold OPS
  rw [act_13 (by decide) (by decide) (by decide)]
  rw [md_i8 (by decide) (by decide)]
  exact fin_l (g_ldw (op := nI 222) (w := 1) (z := 1) (rel_p1 h) (by decide) (Or.inl (by unfold way; decide)) (Or.inr rfl))
theorem op_223 {mu nu : Mu} (h : Rel mu nu) : OPS 223 mu nu := by
  unfold OPS
  rw [act_13 (by decide) (by decide) (by decide)]
  rw [md_i8 (by decide) (by decide)]
  exact fin_l (g_stw (op := nI 223) (w := 1) (z := 1) (rel_p1 h) (by decide) (by unfold way; decide) (Or.inr rfl))
theorem op_224 {mu nu : Mu} (h : Rel mu nu) : OPS 224 mu nu := by
  unfold OPS
  rw [act_14 (by decide) (by decide) (by decide)]
  rw [md_i8 (by decide) (by decide)]
  exact fin_l (g_two (op := nI 224) (d := 0) (w := 2) (z := 1) (rel_p1 h) (by decide) (by unfold isTw; decide) (Or.inl (by unfold way; decide)) (Or.inr rfl))
theorem op_225 {mu nu : Mu} (h : Rel mu nu) : OPS 225 mu nu := by
  unfold OPS
  rw [act_14 (by decide) (by decide) (by decide)]
  rw [md_i8 (by decide) (by decide)]
  exact fin_l (g_two (op := nI 225) (d := 1) (w := 2) (z := 1) (rel_p1 h) (by decide) (by unfold isTw; decide) (Or.inl (by unfold way; decide)) (Or.inr rfl))
theorem op_226 {mu nu : Mu} (h : Rel mu nu) : OPS 226 mu nu := by
  unfold OPS
  rw [act_14 (by decide) (by decide) (by decide)]
  rw [md_i8 (by decide) (by decide)]
  exact fin_l (g_two (op := nI 226) (d := 2) (w := 2) (z := 1) (rel_p1 h) (by decide) (by unfold isTw; decide) (Or.inl (by unfold way; decide)) (Or.inr rfl))
theorem op_227 {mu nu : Mu} (h : Rel mu nu) : OPS 227 mu nu := by
  unfold OPS
  rw [act_il (by decide) (by decide)]
  rw [md_i8 (by decide) (by decide)]
  exact fin_i h (by simp +decide only [F_Md_worksOnTwo_23, F_Md_withWords, F_Md_withWords_22, F_Md_withWords_48, F_Md_withWords_115, ↓reduceIte])
theorem op_228 {mu nu : Mu} (h : Rel mu nu) : OPS 228 mu nu := by
  unfold OPS
  rw [act_14 (by decide) (by decide) (by decide)]
  rw [md_i8 (by decide) (by decide)]
  exact fin_l (g_two (op := nI 228) (d := 4) (w := 2) (z := 1) (rel_p1 h) (by decide) (by unfold isTw; decide) (Or.inl (by unfold way; decide)) (Or.inr rfl))
theorem op_229 {mu nu : Mu} (h : Rel mu nu) : OPS 229 mu nu := by
  unfold OPS
  rw [act_14 (by decide) (by decide) (by decide)]
  rw [md_i8 (by decide) (by decide)]
  exact fin_l (g_two (op := nI 229) (d := 5) (w := 2) (z := 1) (rel_p1 h) (by decide) (by unfold isTw; decide) (Or.inl (by unfold way; decide)) (Or.inr rfl))
theorem op_230 {mu nu : Mu} (h : Rel mu nu) : OPS 230 mu nu := by
  unfold OPS
  rw [act_14 (by decide) (by decide) (by decide)]
  rw [md_i8 (by decide) (by decide)]
  exact fin_l (g_two (op := nI 230) (d := 6) (w := 2) (z := 1) (rel_p1 h) (by decide) (by unfold isTw; decide) (Or.inl (by unfold way; decide)) (Or.inr rfl))
theorem op_231 {mu nu : Mu} (h : Rel mu nu) : OPS 231 mu nu := by
  unfold OPS
  rw [act_14 (by decide) (by decide) (by decide)]
  rw [md_i8 (by decide) (by decide)]
  exact fin_l (g_sta (op := nI 231) (w := 2) (z := 1) (rel_p1 h) (by decide) (by unfold way; decide) (Or.inr rfl))
theorem op_232 {mu nu : Mu} (h : Rel mu nu) : OPS 232 mu nu := by
  unfold OPS
  rw [act_14 (by decide) (by decide) (by decide)]
  rw [md_i8 (by decide) (by decide)]
  exact fin_l (g_two (op := nI 232) (d := 8) (w := 2) (z := 1) (rel_p1 h) (by decide) (by unfold isTw; decide) (Or.inl (by unfold way; decide)) (Or.inr rfl))
theorem op_233 {mu nu : Mu} (h : Rel mu nu) : OPS 233 mu nu := by
  unfold OPS
  rw [act_14 (by decide) (by decide) (by decide)]
  rw [md_i8 (by decide) (by decide)]
  exact fin_l (g_two (op := nI 233) (d := 9) (w := 2) (z := 1) (rel_p1 h) (by decide) (by unfold isTw; decide) (Or.inl (by unfold way; decide)) (Or.inr rfl))
theorem op_234 {mu nu : Mu} (h : Rel mu nu) : OPS 234 mu nu := by
  unfold OPS
  rw [act_14 (by decide) (by decide) (by decide)]
  rw [md_i8 (by decide) (by decide)]
  exact fin_l (g_two (op := nI 234) (d := 10) (w := 2) (z := 1) (rel_p1 h) (by decide) (by unfold isTw; decide) (Or.inl (by unfold way; decide)) (Or.inr rfl))
theorem op_235 {mu nu : Mu} (h : Rel mu nu) : OPS 235 mu nu := by
  unfold OPS
  rw [act_14 (by decide) (by decide) (by decide)]
  rw [md_i8 (by decide) (by decide)]
  exact fin_l (g_two (op := nI 235) (d := 11) (w := 2) (z := 1) (rel_p1 h) (by decide) (by unfold isTw; decide) (Or.inl (by unfold way; decide)) (Or.inr rfl))
theorem op_236 {mu nu : Mu} (h : Rel mu nu) : OPS 236 mu nu := by
  unfold OPS
  rw [act_il (by decide) (by decide)]
  rw [md_i8 (by decide) (by decide)]
  exact fin_i h (by simp +decide only [F_Md_worksOnTwo_23, F_Md_withWords, F_Md_withWords_22, F_Md_withWords_48, F_Md_withWords_115, ↓reduceIte])
theorem op_237 {mu nu : Mu} (h : Rel mu nu) : OPS 237 mu nu := by
  unfold OPS
  rw [act_il (by decide) (by decide)]
  rw [md_i8 (by decide) (by decide)]
  exact fin_i h (by simp +decide only [F_Md_worksOnTwo_23, F_Md_withWords, F_Md_withWords_22, F_Md_withWords_48, F_Md_withWords_115, ↓reduceIte])
theorem op_238 {mu nu : Mu} (h : Rel mu nu) : OPS 238 mu nu := by
  unfold OPS
  rw [act_14 (by decide) (by decide) (by decide)]
  rw [md_i8 (by decide) (by decide)]
  exact fin_l (g_ldw (op := nI 238) (w := 2) (z := 1) (rel_p1 h) (by decide) (Or.inl (by unfold way; decide)) (Or.inr rfl))
theorem op_239 {mu nu : Mu} (h : Rel mu nu) : OPS 239 mu nu := by
  unfold OPS
  rw [act_14 (by decide) (by decide) (by decide)]
  rw [md_i8 (by decide) (by decide)]
  exact fin_l (g_stw (op := nI 239) (w := 2) (z := 1) (rel_p1 h) (by decide) (by unfold way; decide) (Or.inr rfl))
theorem op_240 {mu nu : Mu} (h : Rel mu nu) : OPS 240 mu nu := by
  unfold OPS
  rw [act_15 (by decide) (by decide) (by decide)]
  rw [md_i8 (by decide) (by decide)]
  exact fin_l (g_two (op := nI 240) (d := 0) (w := 3) (z := 1) (rel_p1 h) (by decide) (by unfold isTw; decide) (Or.inl (by unfold way; decide)) (Or.inr rfl))
theorem op_241 {mu nu : Mu} (h : Rel mu nu) : OPS 241 mu nu := by
  unfold OPS
  rw [act_15 (by decide) (by decide) (by decide)]
  rw [md_i8 (by decide) (by decide)]
  exact fin_l (g_two (op := nI 241) (d := 1) (w := 3) (z := 1) (rel_p1 h) (by decide) (by unfold isTw; decide) (Or.inl (by unfold way; decide)) (Or.inr rfl))
theorem op_242 {mu nu : Mu} (h : Rel mu nu) : OPS 242 mu nu := by
  unfold OPS
  rw [act_15 (by decide) (by decide) (by decide)]
  rw [md_i8 (by decide) (by decide)]
  exact fin_l (g_two (op := nI 242) (d := 2) (w := 3) (z := 1) (rel_p1 h) (by decide) (by unfold isTw; decide) (Or.inl (by unfold way; decide)) (Or.inr rfl))
theorem op_243 {mu nu : Mu} (h : Rel mu nu) : OPS 243 mu nu := by
  unfold OPS
  rw [act_il (by decide) (by decide)]
  rw [md_i8 (by decide) (by decide)]
  exact fin_i h (by simp +decide only [F_Md_worksOnTwo_23, F_Md_withWords, F_Md_withWords_22, F_Md_withWords_48, F_Md_withWords_115, ↓reduceIte])
theorem op_244 {mu nu : Mu} (h : Rel mu nu) : OPS 244 mu nu := by
  unfold OPS
  rw [act_15 (by decide) (by decide) (by decide)]
  rw [md_i8 (by decide) (by decide)]
  exact fin_l (g_two (op := nI 244) (d := 4) (w := 3) (z := 1) (rel_p1 h) (by decide) (by unfold isTw; decide) (Or.inl (by unfold way; decide)) (Or.inr rfl))
theorem op_245 {mu nu : Mu} (h : Rel mu nu) : OPS 245 mu nu := by
  unfold OPS
  rw [act_15 (by decide) (by decide) (by decide)]
  rw [md_i8 (by decide) (by decide)]
  exact fin_l (g_two (op := nI 245) (d := 5) (w := 3) (z := 1) (rel_p1 h) (by decide) (by unfold isTw; decide) (Or.inl (by unfold way; decide)) (Or.inr rfl))
theorem op_246 {mu nu : Mu} (h : Rel mu nu) : OPS 246 mu nu := by
  unfold OPS
  rw [act_15 (by decide) (by decide) (by decide)]
  rw [md_i8 (by decide) (by decide)]
  exact fin_l (g_two (op := nI 246) (d := 6) (w := 3) (z := 1) (rel_p1 h) (by decide) (by unfold isTw; decide) (Or.inl (by unfold way; decide)) (Or.inr rfl))
theorem op_247 {mu nu : Mu} (h : Rel mu nu) : OPS 247 mu nu := by
  unfold OPS
  rw [act_15 (by decide) (by decide) (by decide)]
  rw [md_i8 (by decide) (by decide)]
  exact fin_l (g_sta (op := nI 247) (w := 3) (z := 1) (rel_p1 h) (by decide) (by unfold way; decide) (Or.inr rfl))
theorem op_248 {mu nu : Mu} (h : Rel mu nu) : OPS 248 mu nu := by
  unfold OPS
  rw [act_15 (by decide) (by decide) (by decide)]
  rw [md_i8 (by decide) (by decide)]
  exact fin_l (g_two (op := nI 248) (d := 8) (w := 3) (z := 1) (rel_p1 h) (by decide) (by unfold isTw; decide) (Or.inl (by unfold way; decide)) (Or.inr rfl))
theorem op_249 {mu nu : Mu} (h : Rel mu nu) : OPS 249 mu nu := by
  unfold OPS
  rw [act_15 (by decide) (by decide) (by decide)]
  rw [md_i8 (by decide) (by decide)]
  exact fin_l (g_two (op := nI 249) (d := 9) (w := 3) (z := 1) (rel_p1 h) (by decide) (by unfold isTw; decide) (Or.inl (by unfold way; decide)) (Or.inr rfl))
theorem op_250 {mu nu : Mu} (h : Rel mu nu) : OPS 250 mu nu := by
  unfold OPS
  rw [act_15 (by decide) (by decide) (by decide)]
  rw [md_i8 (by decide) (by decide)]
  exact fin_l (g_two (op := nI 250) (d := 10) (w := 3) (z := 1) (rel_p1 h) (by decide) (by unfold isTw; decide) (Or.inl (by unfold way; decide)) (Or.inr rfl))
theorem op_251 {mu nu : Mu} (h : Rel mu nu) : OPS 251 mu nu := by
  unfold OPS
  rw [act_15 (by decide) (by decide) (by decide)]
  rw [md_i8 (by decide) (by decide)]
  exact fin_l (g_two (op := nI 251) (d := 11) (w := 3) (z := 1) (rel_p1 h) (by decide) (by unfold isTw; decide) (Or.inl (by unfold way; decide)) (Or.inr rfl))
theorem op_252 {mu nu : Mu} (h : Rel mu nu) : OPS 252 mu nu := by
  unfold OPS
  rw [act_il (by decide) (by decide)]
  rw [md_i8 (by decide) (by decide)]
  exact fin_i h (by simp +decide only [F_Md_worksOnTwo_23, F_Md_withWords, F_Md_withWords_22, F_Md_withWords_48, F_Md_withWords_115, ↓reduceIte])
theorem op_253 {mu nu : Mu} (h : Rel mu nu) : OPS 253 mu nu := by
  unfold OPS
  rw [act_il (by decide) (by decide)]
  rw [md_i8 (by decide) (by decide)]
  exact fin_i h (by simp +decide only [F_Md_worksOnTwo_23, F_Md_withWords, F_Md_withWords_22, F_Md_withWords_48, F_Md_withWords_115, ↓reduceIte])
theorem op_254 {mu nu : Mu} (h : Rel mu nu) : OPS 254 mu nu := by
  unfold OPS
  rw [act_15 (by decide) (by decide) (by decide)]
  rw [md_i8 (by decide) (by decide)]
  exact fin_l (g_ldw (op := nI 254) (w := 3) (z := 1) (rel_p1 h) (by decide) (Or.inl (by unfold way; decide)) (Or.inr rfl))
theorem op_255 {mu nu : Mu} (h : Rel mu nu) : OPS 255 mu nu := by
  unfold OPS
  rw [act_15 (by decide) (by decide) (by decide)]
  rw [md_i8 (by decide) (by decide)]
  exact fin_l (g_stw (op := nI 255) (w := 3) (z := 1) (rel_p1 h) (by decide) (by unfold way; decide) (Or.inr rfl))
theorem ops_all {mu nu : Mu} (h : Rel mu nu) : ∀ j, j < 256 → OPS j mu nu := by
  intro j hj
  rcases (show j / 16 = 0 ∨ j / 16 = 1 ∨ j / 16 = 2 ∨ j / 16 = 3 ∨ j / 16 = 4 ∨ j / 16 = 5 ∨ j / 16 = 6 ∨ j / 16 = 7 ∨ j / 16 = 8 ∨ j / 16 = 9 ∨ j / 16 = 10 ∨ j / 16 = 11 ∨ j / 16 = 12 ∨ j / 16 = 13 ∨ j / 16 = 14 ∨ j / 16 = 15 by omega) with ht | ht | ht | ht | ht | ht | ht | ht | ht | ht | ht | ht | ht | ht | ht | ht
  · rcases (show j = 0 ∨ j = 1 ∨ j = 2 ∨ j = 3 ∨ j = 4 ∨ j = 5 ∨ j = 6 ∨ j = 7 ∨ j = 8 ∨ j = 9 ∨ j = 10 ∨ j = 11 ∨ j = 12 ∨ j = 13 ∨ j = 14 ∨ j = 15 by omega) with rfl | rfl | rfl | rfl | rfl | rfl | rfl | rfl | rfl | rfl | rfl | rfl | rfl | rfl | rfl | rfl
    · exact op_0 h
    · exact op_1 h
    · exact op_2 h
    · exact op_3 h
    · exact op_4 h
    · exact op_5 h
    · exact op_6 h
    · exact op_7 h
    · exact op_8 h
    · exact op_9 h
    · exact op_10 h
    · exact op_11 h
    · exact op_12 h
    · exact op_13 h
    · exact op_14 h
    · exact op_15 h
  · rcases (show j = 16 ∨ j = 17 ∨ j = 18 ∨ j = 19 ∨ j = 20 ∨ j = 21 ∨ j = 22 ∨ j = 23 ∨ j = 24 ∨ j = 25 ∨ j = 26 ∨ j = 27 ∨ j = 28 ∨ j = 29 ∨ j = 30 ∨ j = 31 by omega) with rfl | rfl | rfl | rfl | rfl | rfl | rfl | rfl | rfl | rfl | rfl | rfl | rfl | rfl | rfl | rfl
    · exact op_16 h
    · exact op_17 h
    · exact op_18 h
    · exact op_19 h
    · exact op_20 h
    · exact op_21 h
    · exact op_22 h
    · exact op_23 h
    · exact op_24 h
    · exact op_25 h
    · exact op_26 h
    · exact op_27 h
    · exact op_28 h
    · exact op_29 h
    · exact op_30 h
    · exact op_31 h
  · rcases (show j = 32 ∨ j = 33 ∨ j = 34 ∨ j = 35 ∨ j = 36 ∨ j = 37 ∨ j = 38 ∨ j = 39 ∨ j = 40 ∨ j = 41 ∨ j = 42 ∨ j = 43 ∨ j = 44 ∨ j = 45 ∨ j = 46 ∨ j = 47 by omega) with rfl | rfl | rfl | rfl | rfl | rfl | rfl | rfl | rfl | rfl | rfl | rfl | rfl | rfl | rfl | rfl
    · exact op_32 h
    · exact op_33 h
    · exact op_34 h
    · exact op_35 h
    · exact op_36 h
    · exact op_37 h
    · exact op_38 h
    · exact op_39 h
    · exact op_40 h
    · exact op_41 h
    · exact op_42 h
    · exact op_43 h
    · exact op_44 h
    · exact op_45 h
    · exact op_46 h
    · exact op_47 h
  · rcases (show j = 48 ∨ j = 49 ∨ j = 50 ∨ j = 51 ∨ j = 52 ∨ j = 53 ∨ j = 54 ∨ j = 55 ∨ j = 56 ∨ j = 57 ∨ j = 58 ∨ j = 59 ∨ j = 60 ∨ j = 61 ∨ j = 62 ∨ j = 63 by omega) with rfl | rfl | rfl | rfl | rfl | rfl | rfl | rfl | rfl | rfl | rfl | rfl | rfl | rfl | rfl | rfl
    · exact op_48 h
    · exact op_49 h
    · exact op_50 h
    · exact op_51 h
    · exact op_52 h
    · exact op_53 h
    · exact op_54 h
    · exact op_55 h
    · exact op_56 h
    · exact op_57 h
    · exact op_58 h
    · exact op_59 h
    · exact op_60 h
    · exact op_61 h
    · exact op_62 h
    · exact op_63 h
  · rcases (show j = 64 ∨ j = 65 ∨ j = 66 ∨ j = 67 ∨ j = 68 ∨ j = 69 ∨ j = 70 ∨ j = 71 ∨ j = 72 ∨ j = 73 ∨ j = 74 ∨ j = 75 ∨ j = 76 ∨ j = 77 ∨ j = 78 ∨ j = 79 by omega) with rfl | rfl | rfl | rfl | rfl | rfl | rfl | rfl | rfl | rfl | rfl | rfl | rfl | rfl | rfl | rfl
    · exact op_64 h
    · exact op_65 h
    · exact op_66 h
    · exact op_67 h
    · exact op_68 h
    · exact op_69 h
    · exact op_70 h
    · exact op_71 h
    · exact op_72 h
    · exact op_73 h
    · exact op_74 h
    · exact op_75 h
    · exact op_76 h
    · exact op_77 h
    · exact op_78 h
    · exact op_79 h
  · rcases (show j = 80 ∨ j = 81 ∨ j = 82 ∨ j = 83 ∨ j = 84 ∨ j = 85 ∨ j = 86 ∨ j = 87 ∨ j = 88 ∨ j = 89 ∨ j = 90 ∨ j = 91 ∨ j = 92 ∨ j = 93 ∨ j = 94 ∨ j = 95 by omega) with rfl | rfl | rfl | rfl | rfl | rfl | rfl | rfl | rfl | rfl | rfl | rfl | rfl | rfl | rfl | rfl
    · exact op_80 h
    · exact op_81 h
    · exact op_82 h
    · exact op_83 h
    · exact op_84 h
    · exact op_85 h
    · exact op_86 h
    · exact op_87 h
    · exact op_88 h
    · exact op_89 h
    · exact op_90 h
    · exact op_91 h
    · exact op_92 h
    · exact op_93 h
    · exact op_94 h
    · exact op_95 h
  · rcases (show j = 96 ∨ j = 97 ∨ j = 98 ∨ j = 99 ∨ j = 100 ∨ j = 101 ∨ j = 102 ∨ j = 103 ∨ j = 104 ∨ j = 105 ∨ j = 106 ∨ j = 107 ∨ j = 108 ∨ j = 109 ∨ j = 110 ∨ j = 111 by omega) with rfl | rfl | rfl | rfl | rfl | rfl | rfl | rfl | rfl | rfl | rfl | rfl | rfl | rfl | rfl | rfl
    · exact op_96 h
    · exact op_97 h
    · exact op_98 h
    · exact op_99 h
    · exact op_100 h
    · exact op_101 h
    · exact op_102 h
    · exact op_103 h
    · exact op_104 h
    · exact op_105 h
    · exact op_106 h
    · exact op_107 h
    · exact op_108 h
    · exact op_109 h
    · exact op_110 h
    · exact op_111 h
  · rcases (show j = 112 ∨ j = 113 ∨ j = 114 ∨ j = 115 ∨ j = 116 ∨ j = 117 ∨ j = 118 ∨ j = 119 ∨ j = 120 ∨ j = 121 ∨ j = 122 ∨ j = 123 ∨ j = 124 ∨ j = 125 ∨ j = 126 ∨ j = 127 by omega) with rfl | rfl | rfl | rfl | rfl | rfl | rfl | rfl | rfl | rfl | rfl | rfl | rfl | rfl | rfl | rfl
    · exact op_112 h
    · exact op_113 h
    · exact op_114 h
    · exact op_115 h
    · exact op_116 h
    · exact op_117 h
    · exact op_118 h
    · exact op_119 h
    · exact op_120 h
    · exact op_121 h
    · exact op_122 h
    · exact op_123 h
    · exact op_124 h
    · exact op_125 h
    · exact op_126 h
    · exact op_127 h
  · rcases (show j = 128 ∨ j = 129 ∨ j = 130 ∨ j = 131 ∨ j = 132 ∨ j = 133 ∨ j = 134 ∨ j = 135 ∨ j = 136 ∨ j = 137 ∨ j = 138 ∨ j = 139 ∨ j = 140 ∨ j = 141 ∨ j = 142 ∨ j = 143 by omega) with rfl | rfl | rfl | rfl | rfl | rfl | rfl | rfl | rfl | rfl | rfl | rfl | rfl | rfl | rfl | rfl
    · exact op_128 h
    · exact op_129 h
    · exact op_130 h
    · exact op_131 h
    · exact op_132 h
    · exact op_133 h
    · exact op_134 h
    · exact op_135 h
    · exact op_136 h
    · exact op_137 h
    · exact op_138 h
    · exact op_139 h
    · exact op_140 h
    · exact op_141 h
    · exact op_142 h
    · exact op_143 h
  · rcases (show j = 144 ∨ j = 145 ∨ j = 146 ∨ j = 147 ∨ j = 148 ∨ j = 149 ∨ j = 150 ∨ j = 151 ∨ j = 152 ∨ j = 153 ∨ j = 154 ∨ j = 155 ∨ j = 156 ∨ j = 157 ∨ j = 158 ∨ j = 159 by omega) with rfl | rfl | rfl | rfl | rfl | rfl | rfl | rfl | rfl | rfl | rfl | rfl | rfl | rfl | rfl | rfl
    · exact op_144 h
    · exact op_145 h
    · exact op_146 h
    · exact op_147 h
    · exact op_148 h
    · exact op_149 h
    · exact op_150 h
    · exact op_151 h
    · exact op_152 h
    · exact op_153 h
    · exact op_154 h
    · exact op_155 h
    · exact op_156 h
    · exact op_157 h
    · exact op_158 h
    · exact op_159 h
  · rcases (show j = 160 ∨ j = 161 ∨ j = 162 ∨ j = 163 ∨ j = 164 ∨ j = 165 ∨ j = 166 ∨ j = 167 ∨ j = 168 ∨ j = 169 ∨ j = 170 ∨ j = 171 ∨ j = 172 ∨ j = 173 ∨ j = 174 ∨ j = 175 by omega) with rfl | rfl | rfl | rfl | rfl | rfl | rfl | rfl | rfl | rfl | rfl | rfl | rfl | rfl | rfl | rfl
    · exact op_160 h
    · exact op_161 h
    · exact op_162 h
    · exact op_163 h
    · exact op_164 h
    · exact op_165 h
    · exact op_166 h
    · exact op_167 h
    · exact op_168 h
    · exact op_169 h
    · exact op_170 h
    · exact op_171 h
    · exact op_172 h
    · exact op_173 h
    · exact op_174 h
    · exact op_175 h
  · rcases (show j = 176 ∨ j = 177 ∨ j = 178 ∨ j = 179 ∨ j = 180 ∨ j = 181 ∨ j = 182 ∨ j = 183 ∨ j = 184 ∨ j = 185 ∨ j = 186 ∨ j = 187 ∨ j = 188 ∨ j = 189 ∨ j = 190 ∨ j = 191 by omega) with rfl | rfl | rfl | rfl | rfl | rfl | rfl | rfl | rfl | rfl | rfl | rfl | rfl | rfl | rfl | rfl
    · exact op_176 h
    · exact op_177 h
    · exact op_178 h
    · exact op_179 h
    · exact op_180 h
    · exact op_181 h
    · exact op_182 h
    · exact op_183 h
    · exact op_184 h
    · exact op_185 h
    · exact op_186 h
    · exact op_187 h
    · exact op_188 h
    · exact op_189 h
    · exact op_190 h
    · exact op_191 h
  · rcases (show j = 192 ∨ j = 193 ∨ j = 194 ∨ j = 195 ∨ j = 196 ∨ j = 197 ∨ j = 198 ∨ j = 199 ∨ j = 200 ∨ j = 201 ∨ j = 202 ∨ j = 203 ∨ j = 204 ∨ j = 205 ∨ j = 206 ∨ j = 207 by omega) with rfl | rfl | rfl | rfl | rfl | rfl | rfl | rfl | rfl | rfl | rfl | rfl | rfl | rfl | rfl | rfl
    · exact op_192 h
    · exact op_193 h
    · exact op_194 h
    · exact op_195 h
    · exact op_196 h
    · exact op_197 h
    · exact op_198 h
    · exact op_199 h
    · exact op_200 h
    · exact op_201 h
    · exact op_202 h
    · exact op_203 h
    · exact op_204 h
    · exact op_205 h
    · exact op_206 h
    · exact op_207 h
  · rcases (show j = 208 ∨ j = 209 ∨ j = 210 ∨ j = 211 ∨ j = 212 ∨ j = 213 ∨ j = 214 ∨ j = 215 ∨ j = 216 ∨ j = 217 ∨ j = 218 ∨ j = 219 ∨ j = 220 ∨ j = 221 ∨ j = 222 ∨ j = 223 by omega) with rfl | rfl | rfl | rfl | rfl | rfl | rfl | rfl | rfl | rfl | rfl | rfl | rfl | rfl | rfl | rfl
    · exact op_208 h
    · exact op_209 h
    · exact op_210 h
    · exact op_211 h
    · exact op_212 h
    · exact op_213 h
    · exact op_214 h
    · exact op_215 h
    · exact op_216 h
    · exact op_217 h
    · exact op_218 h
    · exact op_219 h
    · exact op_220 h
    · exact op_221 h
    · exact op_222 h
    · exact op_223 h
  · rcases (show j = 224 ∨ j = 225 ∨ j = 226 ∨ j = 227 ∨ j = 228 ∨ j = 229 ∨ j = 230 ∨ j = 231 ∨ j = 232 ∨ j = 233 ∨ j = 234 ∨ j = 235 ∨ j = 236 ∨ j = 237 ∨ j = 238 ∨ j = 239 by omega) with rfl | rfl | rfl | rfl | rfl | rfl | rfl | rfl | rfl | rfl | rfl | rfl | rfl | rfl | rfl | rfl
    · exact op_224 h
    · exact op_225 h
    · exact op_226 h
    · exact op_227 h
    · exact op_228 h
    · exact op_229 h
    · exact op_230 h
    · exact op_231 h
    · exact op_232 h
    · exact op_233 h
    · exact op_234 h
    · exact op_235 h
    · exact op_236 h
    · exact op_237 h
    · exact op_238 h
    · exact op_239 h
  · rcases (show j = 240 ∨ j = 241 ∨ j = 242 ∨ j = 243 ∨ j = 244 ∨ j = 245 ∨ j = 246 ∨ j = 247 ∨ j = 248 ∨ j = 249 ∨ j = 250 ∨ j = 251 ∨ j = 252 ∨ j = 253 ∨ j = 254 ∨ j = 255 by omega) with rfl | rfl | rfl | rfl | rfl | rfl | rfl | rfl | rfl | rfl | rfl | rfl | rfl | rfl | rfl | rfl
    · exact op_240 h
    · exact op_241 h
    · exact op_242 h
    · exact op_243 h
    · exact op_244 h
    · exact op_245 h
    · exact op_246 h
    · exact op_247 h
    · exact op_248 h
    · exact op_249 h
    · exact op_250 h
    · exact op_251 h
    · exact op_252 h
    · exact op_253 h
    · exact op_254 h
    · exact op_255 h
