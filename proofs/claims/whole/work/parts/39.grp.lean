/-! an instruction of the class beside one of the reference -/
def GG (c : Mu) (r : Int32 × Mu) : Prop := r.1 = 1 ∧ Rel c r.2
/-! DAA -/
theorem daa_n {mu nu : Mu} (v : Int32) (h : Rel mu nu) : Rel (ps (F_Ar_told (v &&& 255) mu).2 9 3 (F_Ar_told (v &&& 255) mu).1) (F_Md_adjust_101 0 (F_Md_nzv v nu).1 (F_Md_nzv v nu).2) := by
  have s := sim_told (r := v &&& 255) (v := v) h rfl
  unfold F_Md_adjust_101
  rw [if_pos rfl, ← s.1]
  exact rel_a s.2.2 s.2.1
theorem daa_y {mu nu : Mu} (v : Int32) (h : Rel mu nu) : Rel (ps (F_Ar_told (v &&& 255) (F_Fl_tell 1 1 mu)).2 9 3 (F_Ar_told (v &&& 255) (F_Fl_tell 1 1 mu)).1) (F_Md_adjust_101 1 (F_Md_nzv v nu).1 (F_Md_nzv v nu).2) := by
  have hx := h.2.1.2
  have e1 : tv 2 0 (nzf (v &&& 255) (tv 1 1 (mu 10 0))) = tv 1 1 (nzf (v &&& 255) (tv 2 0 (mu 10 0))) := by
    rw [nzf_tv (by decide) (by decide) (by decide) (Or.inl rfl) (bF_tv (by decide) (Or.inr rfl) hx), nzf_tv (by decide) (by decide) (by decide) (Or.inr rfl) (bF_tv (by decide) (Or.inl rfl) hx), tvc (by decide) (by decide) (by decide) (Or.inl rfl) (Or.inr rfl) hx]
  unfold F_Md_adjust_101
  rw [if_neg (show ¬ (1 : Int32) = 0 by decide), ar_told, md_nzv, fl_tell, md_tell]
  simp only [ps_ps, ps_self]
  rw [ps_k (mu := ps nu 12 7 (nzf (v &&& 255) (tv 2 0 (nu 12 7)))) (r := 12) (k := 2) (k' := 7) (v := v &&& 255) (by decide), ps_self, ← h.2.1.1, e1]
  rw [ps_comm (ps nu 12 7 (nzf (v &&& 255) (tv 2 0 (mu 10 0)))) (r := 12) (k := 2) (r' := 12) (k' := 7) _ _ (Or.inr (by decide)), ps_ps]
  exact rel_a (rel_f h (bF_tv (by decide) (Or.inr rfl) (bF_nzf (bF_tv (by decide) (Or.inl rfl) hx)))) (bB_and _)
theorem fl_md {mu nu : Mu} (f : Int32) (h : Rel mu nu) : F_Md_is f nu = F_Fl_has f mu := by
  unfold F_Md_is F_Fl_has; rw [h.2.1.1]
theorem rel_daa {mu nu : Mu} (h : Rel mu nu) : Rel (ps (F_Ar_decimalAdjusted (mu 9 3) mu).2 9 3 (F_Ar_decimalAdjusted (mu 9 3) mu).1) (F_Md_adjust nu) := by
  have n1 := daa_n (mu 9 3) h
  have n2 := daa_n (mu 9 3 + 6) h
  have y1 := daa_y (mu 9 3 + 96) h
  have y2 := daa_y (mu 9 3 + 6 + 96) h
  unfold F_Ar_decimalAdjusted F_Md_adjust
  simp only [F_Ar_decimalAdjusted_38, F_Ar_decimalAdjusted_42, F_Ar_decimalAdjusted_43, F_Ar_decimalAdjusted_66, F_Ar_decimalAdjusted_69, F_Ar_decimalAdjusted_86, F_Md_adjust_30, F_Md_adjust_35, F_Md_adjust_62, F_Md_adjust_66, F_Md_adjust_67, F_Md_adjust_85, F_Md_adjust_97, fl_md _ h, ← h.1.1.1, Int32.add_zero]
  generalize mu 9 3 >>> ((4 : Int32) &&& 31) = u
  generalize mu 9 3 &&& 15 = l
  by_cases a : (9 : Int32) < u <;> by_cases b : F_Fl_has 1 mu = 0 <;> by_cases c : u = 9 <;> by_cases d : l ≤ 9 <;> by_cases e : (9 : Int32) < l <;> by_cases g : F_Fl_has 32 mu = 0 <;> simp +decide only [a, b, c, d, e, g, ↓reduceIte] <;> first | exact n1 | exact n2 | exact y1 | exact y2

theorem gi_1 {mu nu : Mu} (h : Rel mu nu) : GG (F_Pr_doFlagsAndIndex (nI 1) mu) (F_Md_first (nI 1) nu) := by
  simp +decide only [F_Pr_doFlagsAndIndex, F_Pr_doFlagsAndIndex_100, F_Pr_doFlagsAndIndex_116, F_Pr_doFlagsAndIndex_122, F_Pr_doFlagsAndIndex_138, F_Pr_doFlagsAndIndex_144, F_Pr_doFlagsAndIndex_161, F_Md_first, F_Md_first_180, F_Md_first_212, F_Md_first_217, F_Md_first_230, F_Md_first_235, F_Md_first_248, F_Md_first_253, F_Md_first_267, ↓reduceIte]
  exact ⟨rfl, h⟩
theorem gi_6 {mu nu : Mu} (h : Rel mu nu) : GG (F_Pr_doFlagsAndIndex (nI 6) mu) (F_Md_first (nI 6) nu) := by
  simp +decide only [F_Pr_doFlagsAndIndex, F_Pr_doFlagsAndIndex_100, F_Pr_doFlagsAndIndex_116, F_Pr_doFlagsAndIndex_122, F_Pr_doFlagsAndIndex_138, F_Pr_doFlagsAndIndex_144, F_Pr_doFlagsAndIndex_161, F_Md_first, F_Md_first_180, F_Md_first_212, F_Md_first_217, F_Md_first_230, F_Md_first_235, F_Md_first_248, F_Md_first_253, F_Md_first_267, ↓reduceIte]
  unfold F_Fl_takeByte
  rw [← h.1.1.1]
  exact ⟨rfl, rel_f h (bF_and _)⟩
theorem gi_7 {mu nu : Mu} (h : Rel mu nu) : GG (F_Pr_doFlagsAndIndex (nI 7) mu) (F_Md_first (nI 7) nu) := by
  simp +decide only [F_Pr_doFlagsAndIndex, F_Pr_doFlagsAndIndex_100, F_Pr_doFlagsAndIndex_116, F_Pr_doFlagsAndIndex_122, F_Pr_doFlagsAndIndex_138, F_Pr_doFlagsAndIndex_144, F_Pr_doFlagsAndIndex_161, F_Md_first, F_Md_first_180, F_Md_first_212, F_Md_first_217, F_Md_first_230, F_Md_first_235, F_Md_first_248, F_Md_first_253, F_Md_first_267, ↓reduceIte]
  unfold F_Fl_asByte
  rw [← h.2.1.1]
  exact ⟨rfl, rel_a h (bB_fl h.2.1.2)⟩
theorem gi_8 {mu nu : Mu} (h : Rel mu nu) : GG (F_Pr_doFlagsAndIndex (nI 8) mu) (F_Md_first (nI 8) nu) := by
  simp +decide only [F_Pr_doFlagsAndIndex, F_Pr_doFlagsAndIndex_100, F_Pr_doFlagsAndIndex_116, F_Pr_doFlagsAndIndex_122, F_Pr_doFlagsAndIndex_138, F_Pr_doFlagsAndIndex_144, F_Pr_doFlagsAndIndex_161, F_Md_first, F_Md_first_180, F_Md_first_212, F_Md_first_217, F_Md_first_230, F_Md_first_235, F_Md_first_248, F_Md_first_253, F_Md_first_267, ↓reduceIte]
  unfold F_Pr_countIndex F_Pr_countIndex_30
  rw [← h.1.2.2.1.1]
  split
  · exact ⟨rfl, rel_tell (rel_x h (bW_and _)) (by decide) (Or.inr rfl)⟩
  · exact ⟨rfl, rel_tell (rel_x h (bW_and _)) (by decide) (Or.inl rfl)⟩
theorem gi_9 {mu nu : Mu} (h : Rel mu nu) : GG (F_Pr_doFlagsAndIndex (nI 9) mu) (F_Md_first (nI 9) nu) := by
  simp +decide only [F_Pr_doFlagsAndIndex, F_Pr_doFlagsAndIndex_100, F_Pr_doFlagsAndIndex_116, F_Pr_doFlagsAndIndex_122, F_Pr_doFlagsAndIndex_138, F_Pr_doFlagsAndIndex_144, F_Pr_doFlagsAndIndex_161, F_Md_first, F_Md_first_180, F_Md_first_212, F_Md_first_217, F_Md_first_230, F_Md_first_235, F_Md_first_248, F_Md_first_253, F_Md_first_267, ↓reduceIte]
  unfold F_Pr_countIndex F_Pr_countIndex_30
  rw [show mu 9 5 + (-1 : Int32) = mu 9 5 - 1 from (Int32.sub_eq_add_neg (mu 9 5) 1).symm]
  rw [← h.1.2.2.1.1]
  split
  · exact ⟨rfl, rel_tell (rel_x h (bW_and _)) (by decide) (Or.inr rfl)⟩
  · exact ⟨rfl, rel_tell (rel_x h (bW_and _)) (by decide) (Or.inl rfl)⟩
theorem gi_10 {mu nu : Mu} (h : Rel mu nu) : GG (F_Pr_doFlagsAndIndex (nI 10) mu) (F_Md_first (nI 10) nu) := by
  simp +decide only [F_Pr_doFlagsAndIndex, F_Pr_doFlagsAndIndex_100, F_Pr_doFlagsAndIndex_116, F_Pr_doFlagsAndIndex_122, F_Pr_doFlagsAndIndex_138, F_Pr_doFlagsAndIndex_144, F_Pr_doFlagsAndIndex_161, F_Md_first, F_Md_first_180, F_Md_first_212, F_Md_first_217, F_Md_first_230, F_Md_first_235, F_Md_first_248, F_Md_first_253, F_Md_first_267, ↓reduceIte]
  exact ⟨rfl, rel_tell h (by decide) (Or.inl rfl)⟩
theorem gi_11 {mu nu : Mu} (h : Rel mu nu) : GG (F_Pr_doFlagsAndIndex (nI 11) mu) (F_Md_first (nI 11) nu) := by
  simp +decide only [F_Pr_doFlagsAndIndex, F_Pr_doFlagsAndIndex_100, F_Pr_doFlagsAndIndex_116, F_Pr_doFlagsAndIndex_122, F_Pr_doFlagsAndIndex_138, F_Pr_doFlagsAndIndex_144, F_Pr_doFlagsAndIndex_161, F_Md_first, F_Md_first_180, F_Md_first_212, F_Md_first_217, F_Md_first_230, F_Md_first_235, F_Md_first_248, F_Md_first_253, F_Md_first_267, ↓reduceIte]
  exact ⟨rfl, rel_tell h (by decide) (Or.inr rfl)⟩
theorem gi_12 {mu nu : Mu} (h : Rel mu nu) : GG (F_Pr_doFlagsAndIndex (nI 12) mu) (F_Md_first (nI 12) nu) := by
  simp +decide only [F_Pr_doFlagsAndIndex, F_Pr_doFlagsAndIndex_100, F_Pr_doFlagsAndIndex_116, F_Pr_doFlagsAndIndex_122, F_Pr_doFlagsAndIndex_138, F_Pr_doFlagsAndIndex_144, F_Pr_doFlagsAndIndex_161, F_Md_first, F_Md_first_180, F_Md_first_212, F_Md_first_217, F_Md_first_230, F_Md_first_235, F_Md_first_248, F_Md_first_253, F_Md_first_267, ↓reduceIte]
  exact ⟨rfl, rel_tell h (by decide) (Or.inl rfl)⟩
theorem gi_13 {mu nu : Mu} (h : Rel mu nu) : GG (F_Pr_doFlagsAndIndex (nI 13) mu) (F_Md_first (nI 13) nu) := by
  simp +decide only [F_Pr_doFlagsAndIndex, F_Pr_doFlagsAndIndex_100, F_Pr_doFlagsAndIndex_116, F_Pr_doFlagsAndIndex_122, F_Pr_doFlagsAndIndex_138, F_Pr_doFlagsAndIndex_144, F_Pr_doFlagsAndIndex_161, F_Md_first, F_Md_first_180, F_Md_first_212, F_Md_first_217, F_Md_first_230, F_Md_first_235, F_Md_first_248, F_Md_first_253, F_Md_first_267, ↓reduceIte]
  exact ⟨rfl, rel_tell h (by decide) (Or.inr rfl)⟩
theorem gi_14 {mu nu : Mu} (h : Rel mu nu) : GG (F_Pr_doFlagsAndIndex (nI 14) mu) (F_Md_first (nI 14) nu) := by
  simp +decide only [F_Pr_doFlagsAndIndex, F_Pr_doFlagsAndIndex_100, F_Pr_doFlagsAndIndex_116, F_Pr_doFlagsAndIndex_122, F_Pr_doFlagsAndIndex_138, F_Pr_doFlagsAndIndex_144, F_Pr_doFlagsAndIndex_161, F_Md_first, F_Md_first_180, F_Md_first_212, F_Md_first_217, F_Md_first_230, F_Md_first_235, F_Md_first_248, F_Md_first_253, F_Md_first_267, ↓reduceIte]
  exact ⟨rfl, rel_tell h (by decide) (Or.inl rfl)⟩
theorem gi_15 {mu nu : Mu} (h : Rel mu nu) : GG (F_Pr_doFlagsAndIndex (nI 15) mu) (F_Md_first (nI 15) nu) := by
  simp +decide only [F_Pr_doFlagsAndIndex, F_Pr_doFlagsAndIndex_100, F_Pr_doFlagsAndIndex_116, F_Pr_doFlagsAndIndex_122, F_Pr_doFlagsAndIndex_138, F_Pr_doFlagsAndIndex_144, F_Pr_doFlagsAndIndex_161, F_Md_first, F_Md_first_180, F_Md_first_212, F_Md_first_217, F_Md_first_230, F_Md_first_235, F_Md_first_248, F_Md_first_253, F_Md_first_267, ↓reduceIte]
  exact ⟨rfl, rel_tell h (by decide) (Or.inr rfl)⟩
theorem gi_16 {mu nu : Mu} (h : Rel mu nu) : GG (F_Pr_doBetweenAccumulators (nI 16) mu) (F_Md_first (nI 16) nu) := by
  simp +decide only [F_Pr_doBetweenAccumulators, F_Pr_doBetweenAccumulators_81, F_Pr_doBetweenAccumulators_119, F_Pr_doBetweenAccumulators_137, F_Pr_doBetweenAccumulators_155, F_Pr_doBetweenAccumulators_178, F_Md_first, F_Md_first_286, F_Md_first_316, F_Md_first_330, F_Md_first_355, ↓reduceIte]
  have s := sim_diff (c := 0) h h.1.1.2 h.1.2.1.2 (Or.inl rfl)
  rw [← h.1.1.1, ← h.1.2.1.1]
  rw [← s.1]
  exact ⟨rfl, rel_a s.2.2 s.2.1⟩
theorem gi_17 {mu nu : Mu} (h : Rel mu nu) : GG (F_Pr_doBetweenAccumulators (nI 17) mu) (F_Md_first (nI 17) nu) := by
  simp +decide only [F_Pr_doBetweenAccumulators, F_Pr_doBetweenAccumulators_81, F_Pr_doBetweenAccumulators_119, F_Pr_doBetweenAccumulators_137, F_Pr_doBetweenAccumulators_155, F_Pr_doBetweenAccumulators_178, F_Md_first, F_Md_first_286, F_Md_first_316, F_Md_first_330, F_Md_first_355, ↓reduceIte]
  have s := sim_diff (c := 0) h h.1.1.2 h.1.2.1.2 (Or.inl rfl)
  rw [← h.1.1.1, ← h.1.2.1.1]
  exact ⟨rfl, s.2.2⟩
theorem gi_22 {mu nu : Mu} (h : Rel mu nu) : GG (F_Pr_doBetweenAccumulators (nI 22) mu) (F_Md_first (nI 22) nu) := by
  simp +decide only [F_Pr_doBetweenAccumulators, F_Pr_doBetweenAccumulators_81, F_Pr_doBetweenAccumulators_119, F_Pr_doBetweenAccumulators_137, F_Pr_doBetweenAccumulators_155, F_Pr_doBetweenAccumulators_178, F_Md_first, F_Md_first_286, F_Md_first_316, F_Md_first_330, F_Md_first_355, ↓reduceIte]
  have s := sim_told (r := mu 9 3) (v := mu 9 3) h (and255 h.1.1.2).symm
  rw [← h.1.1.1, ← s.1]
  exact ⟨rfl, rel_b s.2.2 s.2.1⟩
theorem gi_23 {mu nu : Mu} (h : Rel mu nu) : GG (F_Pr_doBetweenAccumulators (nI 23) mu) (F_Md_first (nI 23) nu) := by
  simp +decide only [F_Pr_doBetweenAccumulators, F_Pr_doBetweenAccumulators_81, F_Pr_doBetweenAccumulators_119, F_Pr_doBetweenAccumulators_137, F_Pr_doBetweenAccumulators_155, F_Pr_doBetweenAccumulators_178, F_Md_first, F_Md_first_286, F_Md_first_316, F_Md_first_330, F_Md_first_355, ↓reduceIte]
  have s := sim_told (r := mu 9 4) (v := mu 9 4) h (and255 h.1.2.1.2).symm
  rw [← h.1.2.1.1, ← s.1]
  exact ⟨rfl, rel_a s.2.2 s.2.1⟩
theorem gi_25 {mu nu : Mu} (h : Rel mu nu) : GG (F_Pr_doBetweenAccumulators (nI 25) mu) (F_Md_first (nI 25) nu) := by
  simp +decide only [F_Pr_doBetweenAccumulators, F_Pr_doBetweenAccumulators_81, F_Pr_doBetweenAccumulators_119, F_Pr_doBetweenAccumulators_137, F_Pr_doBetweenAccumulators_155, F_Pr_doBetweenAccumulators_178, F_Md_first, F_Md_first_286, F_Md_first_316, F_Md_first_330, F_Md_first_355, ↓reduceIte]
  exact ⟨rfl, rel_daa h⟩
theorem gi_27 {mu nu : Mu} (h : Rel mu nu) : GG (F_Pr_doBetweenAccumulators (nI 27) mu) (F_Md_first (nI 27) nu) := by
  simp +decide only [F_Pr_doBetweenAccumulators, F_Pr_doBetweenAccumulators_81, F_Pr_doBetweenAccumulators_119, F_Pr_doBetweenAccumulators_137, F_Pr_doBetweenAccumulators_155, F_Pr_doBetweenAccumulators_178, F_Md_first, F_Md_first_286, F_Md_first_316, F_Md_first_330, F_Md_first_355, ↓reduceIte]
  have s := sim_sum (c := 0) h h.1.1.2 h.1.2.1.2 (Or.inl rfl)
  rw [← h.1.1.1, ← h.1.2.1.1]
  rw [← s.1]
  exact ⟨rfl, rel_a s.2.2 s.2.1⟩
theorem gi_48 {mu nu : Mu} (h : Rel mu nu) : GG (F_Pr_doStack (nI 48) mu) (F_Md_stacked (nI 48) nu) := by
  simp +decide only [F_Pr_doStack, F_Pr_doStack_117, F_Pr_doStack_128, F_Pr_doStack_193, F_Pr_doStack_210, F_Pr_doStack_222, F_Md_stacked, F_Md_stacked_115, F_Md_stacked_125, F_Md_stacked_185, F_Md_stacked_200, F_Md_stacked_211, F_Md_stacked_218, F_Md_stacked_225, ↓reduceIte]
  rw [← h.1.2.2.2.1.1]
  exact ⟨rfl, rel_x h (bW_and _)⟩
theorem gi_49 {mu nu : Mu} (h : Rel mu nu) : GG (F_Pr_doStack (nI 49) mu) (F_Md_stacked (nI 49) nu) := by
  simp +decide only [F_Pr_doStack, F_Pr_doStack_117, F_Pr_doStack_128, F_Pr_doStack_193, F_Pr_doStack_210, F_Pr_doStack_222, F_Md_stacked, F_Md_stacked_115, F_Md_stacked_125, F_Md_stacked_185, F_Md_stacked_200, F_Md_stacked_211, F_Md_stacked_218, F_Md_stacked_225, ↓reduceIte]
  rw [← h.1.2.2.2.1.1]
  exact ⟨rfl, rel_s h (bW_and _)⟩
theorem gi_50 {mu nu : Mu} (h : Rel mu nu) : GG (F_Pr_doStack (nI 50) mu) (F_Md_stacked (nI 50) nu) := by
  simp +decide only [F_Pr_doStack, F_Pr_doStack_117, F_Pr_doStack_128, F_Pr_doStack_193, F_Pr_doStack_210, F_Pr_doStack_222, F_Md_stacked, F_Md_stacked_115, F_Md_stacked_125, F_Md_stacked_185, F_Md_stacked_200, F_Md_stacked_211, F_Md_stacked_218, F_Md_stacked_225, ↓reduceIte]
  have s := sim_pull h
  rw [← s.1]
  exact ⟨rfl, rel_a s.2.2 s.2.1⟩
theorem gi_51 {mu nu : Mu} (h : Rel mu nu) : GG (F_Pr_doStack (nI 51) mu) (F_Md_stacked (nI 51) nu) := by
  simp +decide only [F_Pr_doStack, F_Pr_doStack_117, F_Pr_doStack_128, F_Pr_doStack_193, F_Pr_doStack_210, F_Pr_doStack_222, F_Md_stacked, F_Md_stacked_115, F_Md_stacked_125, F_Md_stacked_185, F_Md_stacked_200, F_Md_stacked_211, F_Md_stacked_218, F_Md_stacked_225, ↓reduceIte]
  have s := sim_pull h
  rw [← s.1]
  exact ⟨rfl, rel_b s.2.2 s.2.1⟩
theorem gi_52 {mu nu : Mu} (h : Rel mu nu) : GG (F_Pr_doStack (nI 52) mu) (F_Md_stacked (nI 52) nu) := by
  simp +decide only [F_Pr_doStack, F_Pr_doStack_117, F_Pr_doStack_128, F_Pr_doStack_193, F_Pr_doStack_210, F_Pr_doStack_222, F_Md_stacked, F_Md_stacked_115, F_Md_stacked_125, F_Md_stacked_185, F_Md_stacked_200, F_Md_stacked_211, F_Md_stacked_218, F_Md_stacked_225, ↓reduceIte]
  rw [← h.1.2.2.2.1.1]
  exact ⟨rfl, rel_s h (bW_and _)⟩
theorem gi_53 {mu nu : Mu} (h : Rel mu nu) : GG (F_Pr_doStack (nI 53) mu) (F_Md_stacked (nI 53) nu) := by
  simp +decide only [F_Pr_doStack, F_Pr_doStack_117, F_Pr_doStack_128, F_Pr_doStack_193, F_Pr_doStack_210, F_Pr_doStack_222, F_Md_stacked, F_Md_stacked_115, F_Md_stacked_125, F_Md_stacked_185, F_Md_stacked_200, F_Md_stacked_211, F_Md_stacked_218, F_Md_stacked_225, ↓reduceIte]
  rw [← h.1.2.2.1.1]
  exact ⟨rfl, rel_s h (bW_and _)⟩
theorem gi_54 {mu nu : Mu} (h : Rel mu nu) : GG (F_Pr_doStack (nI 54) mu) (F_Md_stacked (nI 54) nu) := by
  simp +decide only [F_Pr_doStack, F_Pr_doStack_117, F_Pr_doStack_128, F_Pr_doStack_193, F_Pr_doStack_210, F_Pr_doStack_222, F_Md_stacked, F_Md_stacked_115, F_Md_stacked_125, F_Md_stacked_185, F_Md_stacked_200, F_Md_stacked_211, F_Md_stacked_218, F_Md_stacked_225, ↓reduceIte]
  rw [← h.1.1.1]
  exact ⟨rfl, rel_push h h.1.1.2⟩
theorem gi_55 {mu nu : Mu} (h : Rel mu nu) : GG (F_Pr_doStack (nI 55) mu) (F_Md_stacked (nI 55) nu) := by
  simp +decide only [F_Pr_doStack, F_Pr_doStack_117, F_Pr_doStack_128, F_Pr_doStack_193, F_Pr_doStack_210, F_Pr_doStack_222, F_Md_stacked, F_Md_stacked_115, F_Md_stacked_125, F_Md_stacked_185, F_Md_stacked_200, F_Md_stacked_211, F_Md_stacked_218, F_Md_stacked_225, ↓reduceIte]
  rw [← h.1.2.1.1]
  exact ⟨rfl, rel_push h h.1.2.1.2⟩
theorem gi_57 {mu nu : Mu} (h : Rel mu nu) : GG (F_Pr_doStack (nI 57) mu) (F_Md_stacked (nI 57) nu) := by
  simp +decide only [F_Pr_doStack, F_Pr_doStack_117, F_Pr_doStack_128, F_Pr_doStack_193, F_Pr_doStack_210, F_Pr_doStack_222, F_Md_stacked, F_Md_stacked_115, F_Md_stacked_125, F_Md_stacked_185, F_Md_stacked_200, F_Md_stacked_211, F_Md_stacked_218, F_Md_stacked_225, ↓reduceIte]
  have s := sim_pullWord h
  rw [← s.1]
  exact ⟨rfl, rel_p s.2.2 s.2.1⟩
theorem gi_59 {mu nu : Mu} (h : Rel mu nu) : GG (F_Pr_doStack (nI 59) mu) (F_Md_stacked (nI 59) nu) := by
  simp +decide only [F_Pr_doStack, F_Pr_doStack_117, F_Pr_doStack_128, F_Pr_doStack_193, F_Pr_doStack_210, F_Pr_doStack_222, F_Md_stacked, F_Md_stacked_115, F_Md_stacked_125, F_Md_stacked_185, F_Md_stacked_200, F_Md_stacked_211, F_Md_stacked_218, F_Md_stacked_225, ↓reduceIte]
  exact ⟨rfl, rel_pullAll h⟩
theorem gi_62 {mu nu : Mu} (h : Rel mu nu) : GG (F_Pr_doStack (nI 62) mu) (F_Md_stacked (nI 62) nu) := by
  simp +decide only [F_Pr_doStack, F_Pr_doStack_117, F_Pr_doStack_128, F_Pr_doStack_193, F_Pr_doStack_210, F_Pr_doStack_222, F_Md_stacked, F_Md_stacked_115, F_Md_stacked_125, F_Md_stacked_185, F_Md_stacked_200, F_Md_stacked_211, F_Md_stacked_218, F_Md_stacked_225, ↓reduceIte]
  exact ⟨rfl, rel_w (rel_pushAll h)⟩
theorem gi_63 {mu nu : Mu} (h : Rel mu nu) : GG (F_Pr_doStack (nI 63) mu) (F_Md_stacked (nI 63) nu) := by
  simp +decide only [F_Pr_doStack, F_Pr_doStack_117, F_Pr_doStack_128, F_Pr_doStack_193, F_Pr_doStack_210, F_Pr_doStack_222, F_Md_stacked, F_Md_stacked_115, F_Md_stacked_125, F_Md_stacked_185, F_Md_stacked_200, F_Md_stacked_211, F_Md_stacked_218, F_Md_stacked_225, ↓reduceIte]
  exact ⟨rfl, rel_go 65530 (rel_pushAll h)⟩
/-! one operand -/
theorem sgl {d : Int32} (hd : isSg d) (mu : Mu) : F_Md_isSingle d mu = 1 ∧ ¬ d = 14 := by
  rcases hd with rfl | rfl | rfl | rfl | rfl | rfl | rfl | rfl | rfl | rfl | rfl <;> exact ⟨by unfold F_Md_isSingle F_Md_isSingle_26; simp +decide only [↓reduceIte], by decide⟩
theorem g_4 {mu nu : Mu} {op d : Int32} (h : Rel mu nu) (e1 : op >>> ((4 : Int32) &&& 31) = 4) (e2 : op &&& 15 = d) (hd : isSg d) : GG (F_Pr_act_167 (F_Ar_changed (op &&& 15) (mu 9 3) mu).1 (F_Ar_changed (op &&& 15) (mu 9 3) mu).2) (F_Md_worksOnOne op nu) := by
  have s := sim_changed h hd h.1.1.2
  unfold F_Pr_act_167 F_Md_worksOnOne F_Md_worksOnOne_42 F_Md_worksOnOne_66
  rw [e1, e2, if_neg (sgl hd nu).2, (sgl hd nu).1, ← h.1.1.1]
  simp +decide only [↓reduceIte]
  rw [← s.1]
  exact ⟨rfl, rel_a s.2.2 s.2.1⟩
theorem g_5 {mu nu : Mu} {op d : Int32} (h : Rel mu nu) (e1 : op >>> ((4 : Int32) &&& 31) = 5) (e2 : op &&& 15 = d) (hd : isSg d) : GG (F_Pr_act_189 (F_Ar_changed (op &&& 15) (mu 9 4) mu).1 (F_Ar_changed (op &&& 15) (mu 9 4) mu).2) (F_Md_worksOnOne op nu) := by
  have s := sim_changed h hd h.1.2.1.2
  unfold F_Pr_act_189 F_Md_worksOnOne F_Md_worksOnOne_42 F_Md_worksOnOne_87
  rw [e1, e2, if_neg (sgl hd nu).2, (sgl hd nu).1, ← h.1.2.1.1]
  simp +decide only [↓reduceIte]
  rw [← s.1]
  exact ⟨rfl, rel_b s.2.2 s.2.1⟩
theorem g_mem {mu nu : Mu} {op d w : Int32} (h : Rel mu nu) (hw : way op w) (hd : isSg d) : GG (F_Pr_changeInMemory d (F_Pr_operandAddress op mu).1 (F_Pr_operandAddress op mu).2) (F_Md_worksOnOne_105 d w nu) := by
  have s := sim_addr h hw
  unfold F_Pr_changeInMemory F_Pr_changeInMemory_30 F_Pr_changeInMemory_40 F_Md_worksOnOne_105 F_Md_worksOnOne_108 F_Md_worksOnOne_128 F_Md_worksOnOne_131
  rw [if_neg (sgl hd nu).2, ← s.1]
  generalize (F_Pr_operandAddress op mu).1 = x
  have h1 := s.2.2
  generalize (F_Pr_operandAddress op mu).2 = m at h1 ⊢
  generalize (F_Md_addressOf w nu).2 = n at h1 ⊢
  by_cases a : d = 15
  · rw [if_pos a, if_pos a]
    have b : ¬ d = 13 := by rw [a]; decide
    have c := sim_changed h1 hd (m := 0) (by unfold bB; decide)
    rw [if_neg b, if_neg b, ← c.1]
    exact ⟨rfl, rel_write x c.2.2 c.2.1⟩
  · rw [if_neg a, if_neg a]
    have r := sim_read x h1
    have c := sim_changed r.2.2 hd r.2.1
    rw [← r.1]
    by_cases b : d = 13
    · rw [if_pos b, if_pos b]; exact ⟨rfl, c.2.2⟩
    · rw [if_neg b, if_neg b, ← c.1]
      exact ⟨rfl, rel_write x c.2.2 c.2.1⟩
theorem g_jmp {mu nu : Mu} {op w : Int32} (h : Rel mu nu) (hw : way op w) : GG (F_Pr_changeInMemory 14 (F_Pr_operandAddress op mu).1 (F_Pr_operandAddress op mu).2) (F_Md_worksOnOne_34 w nu) := by
  have s := sim_addr h hw
  unfold F_Pr_changeInMemory F_Md_worksOnOne_34 F_Md_worksOnOne_37
  rw [if_pos rfl, ← s.1]
  exact ⟨rfl, rel_p s.2.2 s.2.1⟩
theorem g_67 {mu nu : Mu} {op d w t : Int32} (h : Rel mu nu) (e1 : op >>> ((4 : Int32) &&& 31) = t) (ht : (t = 6 ∧ w = 2) ∨ (t = 7 ∧ w = 3)) (hw : way op w) (e2 : op &&& 15 = d) (hd : isSg d ∨ d = 14) : GG (F_Pr_act_195 op mu) (F_Md_worksOnOne op nu) := by
  unfold F_Pr_act_195 F_Pr_act_205 F_Md_worksOnOne F_Md_worksOnOne_42
  rw [e1, e2]
  rcases hd with hd | rfl
  · rw [if_neg (sgl hd nu).2, (sgl hd nu).1]
    rcases ht with ⟨rfl, rfl⟩ | ⟨rfl, rfl⟩ <;> (simp +decide only [↓reduceIte]; exact g_mem h hw hd)
  · rcases ht with ⟨rfl, rfl⟩ | ⟨rfl, rfl⟩ <;> (simp +decide only [↓reduceIte]; exact g_jmp h hw)
/-! two operands -/
theorem e_isTw {d : Int32} (hd : isTw d) : (¬ d = 7 ∧ ¬ d = 12 ∧ ¬ d = 13 ∧ ¬ d = 14 ∧ ¬ d = 15 ∧ d < 12 ∧ ¬ d = 3) ∧ ∀ mu : Mu, F_Pr_immediateSize d mu = 1 := by
  rcases hd with rfl | rfl | rfl | rfl | rfl | rfl | rfl | rfl | rfl | rfl <;> exact ⟨by decide, fun _ => rfl⟩
/-- the way of an operand, immediate ones too, that take n bytes -/
def ways (op w n : Int32) : Prop := way op w ∨ ((op >>> ((4 : Int32) &&& 31)) &&& 3 = 0 ∧ w = 0 ∧ ∀ mu : Mu, F_Pr_immediateSize (op &&& 15) mu = n)
theorem g_two {mu nu : Mu} {op d w z : Int32} (h : Rel mu nu) (e2 : op &&& 15 = d) (hd : isTw d) (hw : ways op w 1) (hz : z01 z) : GG (F_Pr_doWithOperand_12 op (F_Pr_operandAddress op mu).1 (1 - z) (F_Pr_operandAddress op mu).2) (F_Md_worksOnTwo_23 d w z nu) := by
  obtain ⟨⟨a1, a2, a3, a4, a5, a6, a7⟩, _⟩ := e_isTw hd
  have s := sim_operand (w := w) h (hw.imp id (fun q => ⟨q.1, q.2.1, q.2.2 mu⟩))
  have c1 : F_Pr_doWithOperand_12 op (F_Pr_operandAddress op mu).1 (1 - z) (F_Pr_operandAddress op mu).2 = F_Pr_doWithOperand_178 (F_Pr_operandAddress op mu).1 (1 - z) d (F_Pr_operandAddress op mu).2 := by
    unfold F_Pr_doWithOperand_12
    rw [e2]
    simp only [a1, a2, a3, a4, a5, ↓reduceIte, ite_self]
  rw [c1]
  unfold F_Pr_doWithOperand_178 F_Pr_doWithOperand_190 F_Pr_combine F_Pr_combine_38 F_Pr_combine_18 F_Md_worksOnTwo_23 F_Md_worksOnTwo_57 F_Md_worksOnTwo_137 F_Md_worksOnTwo_140 F_Md_worksOnTwo_116 F_Md_worksOnTwo_119
  rw [if_pos a6, if_neg a7, if_neg a1, if_neg a1, ← s.1]
  have k2 : nu 12 2 = (F_Md_operand w nu).2 12 2 := (md_op_k w nu (by unfold oP; decide) (by decide)).symm
  have k3 : nu 12 3 = (F_Md_operand w nu).2 12 3 := (md_op_k w nu (by unfold oP; decide) (by decide)).symm
  rw [k2, k3]
  have h1 := s.2.2
  have hb := s.2.1
  generalize (F_Bu_read (F_Pr_operandAddress op mu).1 (F_Pr_operandAddress op mu).2).1 = v at hb ⊢
  generalize (F_Bu_read (F_Pr_operandAddress op mu).1 (F_Pr_operandAddress op mu).2).2 = m at h1 ⊢
  generalize (F_Md_operand w nu).2 = n at h1 ⊢
  rw [← h1.1.1.1, ← h1.1.2.1.1]
  rcases hz with rfl | rfl
  · have c := sim_combined h1 hd h1.1.1.2 hb
    simp +decide only [↓reduceIte]
    rw [← c.1]; exact ⟨rfl, rel_a c.2.2 c.2.1⟩
  · have c := sim_combined h1 hd h1.1.2.1.2 hb
    simp +decide only [↓reduceIte]
    rw [← c.1]; exact ⟨rfl, rel_b c.2.2 c.2.1⟩
theorem g_sta {mu nu : Mu} {op w z : Int32} (h : Rel mu nu) (e2 : op &&& 15 = 7) (hw : way op w) (hz : z01 z) : GG (F_Pr_doWithOperand_12 op (F_Pr_operandAddress op mu).1 (1 - z) (F_Pr_operandAddress op mu).2) (F_Md_worksOnTwo_23 7 w z nu) := by
  have s := sim_addr h hw
  unfold F_Pr_doWithOperand_12 F_Pr_doWithOperand_96 F_Pr_doWithOperand_99 F_Md_worksOnTwo_23 F_Md_worksOnTwo_57 F_Md_worksOnTwo_68 F_Md_worksOnTwo_90 F_Md_worksOnTwo_93
  rw [e2, if_pos rfl]
  simp +decide only [way_ne hw, ↓reduceIte]
  rw [← s.1]
  have h1 := s.2.2
  generalize (F_Pr_operandAddress op mu).1 = x
  generalize (F_Pr_operandAddress op mu).2 = m at h1 ⊢
  generalize (F_Md_addressOf w nu).2 = n at h1 ⊢
  rcases hz with rfl | rfl
  · simp +decide only [↓reduceIte]
    have t := sim_told (r := m 9 3) (v := m 9 3) h1 (and255 h1.1.1.2).symm
    rw [← h1.1.1.1, ← t.1]; exact ⟨rfl, rel_write x t.2.2 t.2.1⟩
  · simp +decide only [↓reduceIte]
    have t := sim_told (r := m 9 4) (v := m 9 4) h1 (and255 h1.1.2.1.2).symm
    rw [← h1.1.2.1.1, ← t.1]; exact ⟨rfl, rel_write x t.2.2 t.2.1⟩
theorem rel_writeWord {mu nu : Mu} {v : Int32} (x : Int32) (h : Rel mu nu) : Rel (F_Bu_writeWord x v mu) (F_Md_writeWord x v nu) := by
  unfold F_Bu_writeWord F_Bu_writeWord_13 F_Md_writeWord F_Md_writeWord_13
  exact rel_write (x + 1) (rel_write x h (bB_and _)) (bB_and _)
theorem andW {x : Int32} (h : bW x) : x &&& 65535 = x := by
  obtain ⟨j, hj, rfl⟩ := bW_of h
  exact w_and' hj
theorem g_stw {mu nu : Mu} {op w z : Int32} (h : Rel mu nu) (e2 : op &&& 15 = 15) (hw : way op w) (hz : z01 z) : GG (F_Pr_doWithOperand_12 op (F_Pr_operandAddress op mu).1 (1 - z) (F_Pr_operandAddress op mu).2) (F_Md_worksOnTwo_23 15 w z nu) := by
  have s := sim_addr h hw
  have wp : ¬ w ≤ 0 := by obtain ⟨_, rfl | rfl | rfl⟩ := hw <;> decide
  unfold F_Pr_doWithOperand_12 F_Pr_doWithOperand_169 F_Pr_doWithOperand_172 F_Md_worksOnTwo_23 F_Md_withWords F_Md_withWords_22 F_Md_withWords_48 F_Md_withWords_85 F_Md_withWords_106 F_Md_withWords_109
  rw [e2]
  simp +decide only [wp, ↓reduceIte]
  rw [← s.1]
  have h1 := s.2.2
  generalize (F_Pr_operandAddress op mu).1 = x
  generalize (F_Pr_operandAddress op mu).2 = m at h1 ⊢
  generalize (F_Md_addressOf w nu).2 = n at h1 ⊢
  rcases hz with rfl | rfl
  · simp +decide only [↓reduceIte]
    have t := sim_toldW (r := m 9 6) (v := m 9 6) h1 (andW h1.1.2.2.2.1.2).symm
    rw [← h1.1.2.2.2.1.1, ← t.1]; exact ⟨rfl, rel_writeWord x t.2.2⟩
  · simp +decide only [↓reduceIte]
    have t := sim_toldW (r := m 9 5) (v := m 9 5) h1 (andW h1.1.2.2.1.2).symm
    rw [← h1.1.2.2.1.1, ← t.1]; exact ⟨rfl, rel_writeWord x t.2.2⟩
theorem g_ldw {mu nu : Mu} {op w z : Int32} (h : Rel mu nu) (e2 : op &&& 15 = 14) (hw : ways op w 2) (hz : z01 z) : GG (F_Pr_doWithOperand_12 op (F_Pr_operandAddress op mu).1 (1 - z) (F_Pr_operandAddress op mu).2) (F_Md_worksOnTwo_23 14 w z nu) := by
  have s := sim_wordOperand (w := w) h (hw.imp id (fun q => ⟨q.1, q.2.1, q.2.2 mu⟩))
  unfold F_Pr_doWithOperand_12 F_Pr_loadWord F_Pr_loadWord_12 F_Pr_loadWord_15 F_Md_worksOnTwo_23 F_Md_withWords F_Md_withWords_22 F_Md_withWords_39 F_Md_withWords_42 F_Md_withWords_48 F_Md_withWords_61 F_Md_withWords_64
  rw [e2]
  simp +decide only [↓reduceIte]
  rw [← s.1]
  have h1 := s.2.2
  have hb := s.2.1
  generalize (F_Bu_readWord (F_Pr_operandAddress op mu).1 (F_Pr_operandAddress op mu).2).1 = v at hb ⊢
  generalize (F_Bu_readWord (F_Pr_operandAddress op mu).1 (F_Pr_operandAddress op mu).2).2 = m at h1 ⊢
  generalize (F_Md_wordOperand w nu).2 = n at h1 ⊢
  have t := sim_toldW (r := v) (v := v) h1 (andW hb).symm
  rcases hz with rfl | rfl
  · simp +decide only [↓reduceIte]
    rw [← t.1]; exact ⟨rfl, rel_s t.2.2 t.2.1⟩
  · simp +decide only [↓reduceIte]
    rw [← t.1]; exact ⟨rfl, rel_x t.2.2 t.2.1⟩

