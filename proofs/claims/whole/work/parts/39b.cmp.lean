/-! words compared -/
def cV16 (x y : Int32) : Int32 := if ((x &&& y) &&& 32768) = 0 then 0 else 1
def cW16 (w : Int32) : Int32 := if w < (-32768 : Int32) then 1 else (if w ≤ 32767 then 0 else 1)
def sg16 (x : Int32) : Int32 := if x ≤ 32767 then x else x - 65536
theorem z_cW16 (w : Int32) : z01 (cW16 w) := by unfold cW16; split; exact Or.inr rfl; split; exact Or.inl rfl; exact Or.inr rfl
theorem ar_cmp (a v : Int32) (mu : Mu) : F_Ar_compareWords a v mu = ps mu 10 0 (tv 2 (cV16 (a ^^^ v) (a ^^^ ((a - v) &&& 65535))) (nzw ((a - v) &&& 65535) (mu 10 0))) := by
  unfold F_Ar_compareWords cV16
  simp only [F_Ar_compareWords_15, F_Ar_compareWords_38, fl_tell, fl_szw, ps_ps, ps_self]
  split <;> rfl
theorem md_cmp (v : Int32) (mu : Mu) : F_Md_compareX v mu = ps mu 12 7 (tv 2 (cW16 (sg16 (mu 12 4) - sg16 v)) (nzw ((mu 12 4 - v) &&& 65535) (mu 12 7))) := by
  unfold F_Md_compareX cW16 sg16
  simp only [F_Md_compareX_24, F_Md_compareX_39, F_Md_compareX_51, F_Md_compareX_68, F_Md_compareX_73, md_tell, md_nzw, ps_ps, ps_self]
  by_cases a : mu 12 4 ≤ 32767 <;> by_cases b : v ≤ 32767 <;> simp only [a, b, ↓reduceIte] <;> (repeat' split) <;> rfl
theorem e32767 : (32767 : Int32).toInt = 32767 := by decide
theorem e65536 : (65536 : Int32).toInt = 65536 := by decide
theorem em32768 : (-32768 : Int32).toInt = -32768 := by decide
theorem sg16_int {j : Nat} (h : j < 65536) : (sg16 (nI j)).toInt = if j < 32768 then (j : Int) else (j : Int) - 65536 := by
  unfold sg16
  have hj := nI_toInt (n := j) (by omega)
  by_cases c : nI j ≤ 32767
  · rw [if_pos c, hj]
    rw [i_le, hj, e32767] at c
    rw [if_pos (by omega)]
  · rw [if_neg c, i_sub (by rw [hj, e65536]; omega) (by rw [hj, e65536]; omega), hj, e65536]
    rw [i_le, hj, e32767] at c
    rw [if_neg (by omega)]
theorem cW16_int {w : Int32} {i : Int} (h : w.toInt = i) : cW16 w = if i < -32768 ∨ 32767 < i then 1 else 0 := by
  unfold cW16
  simp only [i_lt, i_le, h, em32768, e32767]
  by_cases a : i < -32768
  · rw [if_pos a, if_pos (Or.inl a)]
  · by_cases b : i ≤ 32767
    · rw [if_neg a, if_pos b, if_neg (by omega)]
    · rw [if_neg a, if_neg b, if_pos (Or.inr (by omega))]
theorem cV16_nat {a b c d : Nat} (ha : a < 65536) (hb : b < 65536) (hc : c < 65536) (hd : d < 65536) : cV16 (nI a ^^^ nI b) (nI c ^^^ nI d) = if (a < 32768 ↔ b < 32768) ∨ (c < 32768 ↔ d < 32768) then 0 else 1 := by
  unfold cV16
  have e : ((nI a ^^^ nI b) &&& (nI c ^^^ nI d)) &&& 32768 = 0 ↔ ((a < 32768 ↔ b < 32768) ∨ (c < 32768 ↔ d < 32768)) := by
    rw [nx_xor, nx_xor, nx_and, show (32768 : Int32) = nI (2 ^ 15) from rfl, nx_bit 15 (by decide), nx_top]
    omega
  by_cases q : (a < 32768 ↔ b < 32768) ∨ (c < 32768 ↔ d < 32768)
  · rw [if_pos (e.mpr q), if_pos q]
  · rw [if_neg (fun z => q (e.mp z)), if_neg q]
theorem v_cmp {a m : Nat} (ha : a < 65536) (hm : m < 65536) : cV16 (nI a ^^^ nI m) (nI a ^^^ ((nI a - nI m) &&& 65535)) = cW16 (sg16 (nI a) - sg16 (nI m)) := by
  have a1 := nI_toInt (n := a) (by omega)
  have a2 := nI_toInt (n := m) (by omega)
  have e0 : (nI a - nI m).toInt = (a : Int) - m := by rw [i_sub (by omega) (by omega), a1, a2]
  have e1 : (nI a - nI m) &&& 65535 = nI ((((a : Int) - m) % 65536).toNat) := nx_m16 e0
  have s1 := sg16_int ha
  have s2 := sg16_int hm
  have e2 : (sg16 (nI a) - sg16 (nI m)).toInt = (sg16 (nI a)).toInt - (sg16 (nI m)).toInt := i_sub (by rw [s1, s2]; split <;> split <;> omega) (by rw [s1, s2]; split <;> split <;> omega)
  rw [e1, cV16_nat ha hm ha (by omega), cW16_int e2, s1, s2]
  by_cases x1 : a < 32768 <;> by_cases x2 : m < 32768 <;> by_cases x3 : (((a : Int) - m) % 65536).toNat < 32768 <;> simp only [x1, x2, x3, ↓reduceIte, iff_true, iff_false, true_iff, false_iff, not_true, not_false_iff, true_or, or_true, or_self] <;> split <;> first | rfl | omega
theorem rel_cmp {mu nu : Mu} {v : Int32} (h : Rel mu nu) (hv : bW v) : Rel (F_Ar_compareWords (mu 9 5) v mu) (F_Md_compareX v nu) := by
  rw [ar_cmp, md_cmp, ← h.1.2.2.1.1, ← h.2.1.1]
  have e : cV16 (mu 9 5 ^^^ v) (mu 9 5 ^^^ ((mu 9 5 - v) &&& 65535)) = cW16 (sg16 (mu 9 5) - sg16 v) := by
    obtain ⟨i, hi, e1⟩ := bW_of h.1.2.2.1.2
    obtain ⟨j, hj, e2⟩ := bW_of hv
    rw [e1, e2]; exact v_cmp hi hj
  rw [e]
  exact rel_f h (bF_tv (by decide) (z_cW16 _) (bF_nzw h.2.1.2))
theorem g_cpx {mu nu : Mu} {op w : Int32} (h : Rel mu nu) (e2 : op &&& 15 = 12) (hw : ways op w 2) : GG (F_Pr_doWithOperand_12 op (F_Pr_operandAddress op mu).1 1 (F_Pr_operandAddress op mu).2) (F_Md_worksOnTwo_23 12 w 0 nu) := by
  have s := sim_wordOperand (w := w) h (hw.imp id (fun q => ⟨q.1, q.2.1, q.2.2 mu⟩))
  have ex : (F_Pr_operandAddress op mu).2 9 5 = (F_Bu_readWord (F_Pr_operandAddress op mu).1 (F_Pr_operandAddress op mu).2).2 9 5 := by
    rw [s.2.2.1.2.2.1.1, md_word_k w nu oP4 (by decide)]
    rcases hw with hw | ⟨e, _, _⟩
    · rw [(sim_addr h hw).2.2.1.2.2.1.1, md_addr_k w nu oP4 (by decide)]
    · rw [imm_addr e]
      exact h.1.2.2.1.1
  unfold F_Pr_doWithOperand_12 F_Pr_doWithOperand_121 F_Md_worksOnTwo_23 F_Md_withWords F_Md_withWords_16
  rw [e2]
  simp +decide only [↓reduceIte]
  rw [ex, ← s.1]
  exact ⟨rfl, rel_cmp s.2.2 s.2.1⟩
theorem md_pushWord_k (v : Int32) (nu : Mu) : (F_Md_pushWord v nu) 12 6 = nu 12 6 := by
  rw [md_pushWord, ps_k (by decide), md_write_k _ _ _ oP6, md_write_k _ _ _ oP6]
theorem g_call {mu nu : Mu} {op w : Int32} (h : Rel mu nu) (e2 : op &&& 15 = 13) (ho : ¬ op = 141) (hw : way op w) (hw1 : ¬ w = 1) : GG (F_Pr_doWithOperand_12 op (F_Pr_operandAddress op mu).1 1 (F_Pr_operandAddress op mu).2) (F_Md_worksOnTwo_23 13 w 0 nu) := by
  have s := sim_addr h hw
  unfold F_Pr_doWithOperand_12 F_Pr_call F_Pr_call_28 F_Pr_call_37 F_Md_worksOnTwo_23 F_Md_withWords F_Md_withWords_22 F_Md_withWords_48 F_Md_withWords_115 F_Md_call F_Md_call_41 F_Md_call_50
  rw [e2]
  simp +decide only [ho, hw1, way_ne hw, ↓reduceIte]
  have hb := s.2.1
  rw [← s.1]
  have h1 := s.2.2
  generalize (F_Pr_operandAddress op mu).1 = x at hb ⊢
  generalize (F_Pr_operandAddress op mu).2 = m at h1 ⊢
  generalize (F_Md_addressOf w nu).2 = n at h1 ⊢
  rw [andW hb, ← h1.1.2.2.2.2.1.1]
  exact ⟨rfl, rel_p (rel_pushWord h1 h1.1.2.2.2.2.1.2) hb⟩
theorem g_bsr {mu nu : Mu} (h : Rel mu nu) : GG (F_Pr_doWithOperand_12 141 (F_Pr_operandAddress 141 mu).1 1 (F_Pr_operandAddress 141 mu).2) (F_Md_worksOnTwo_23 13 0 0 nu) := by
  have s := sim_next h
  have ei : F_Pr_operandAddress 141 mu = (mu 9 7, ps mu 9 7 ((mu 9 7 + 1) &&& 65535)) := by
    rw [imm_addr (by decide)]; rfl
  rw [ei]
  unfold F_Pr_doWithOperand_12 F_Pr_call F_Pr_call_20 F_Pr_call_28 F_Pr_call_37 F_Md_worksOnTwo_23 F_Md_withWords F_Md_withWords_22 F_Md_withWords_48 F_Md_withWords_115 F_Md_call F_Md_call_8 F_Md_call_20
  simp +decide only [↓reduceIte]
  rw [md_pushWord_k, sg_eq _ nu, md_signed, md_signed, ← s.1]
  have en : (F_Md_next nu).2 12 6 = (mu 9 7 + 1) &&& 65535 := by
    rw [md_next, md_read_k _ _ oP6, ps_self, h.1.2.2.2.2.1.1]
  have em : (F_Bu_read (mu 9 7) (ps mu 9 7 ((mu 9 7 + 1) &&& 65535))).2 9 7 = (mu 9 7 + 1) &&& 65535 := by
    rw [s.2.2.1.2.2.2.2.1.1, en]
  rw [en, em, ps_self]
  exact ⟨rfl, rel_p (rel_pushWord s.2.2 (bW_and _)) (bW_and _)⟩
