/-! shifts, counts, turns -/
def vNC (f : Int32) : Int32 := if (if (f &&& 8) = 0 then (0 : Int32) else 1) = (if (f &&& 1) = 0 then 0 else 1) then 0 else 1
theorem z_vNC (f : Int32) : z01 (vNC f) := z_if
theorem ar_shifted (r b : Int32) (mu : Mu) : F_Ar_shifted r b mu = (r, ps mu 10 0 (tv 2 (vNC (nzf r (tv 1 (if b = 0 then 0 else 1) (mu 10 0)))) (nzf r (tv 1 (if b = 0 then 0 else 1) (mu 10 0))))) := by
  unfold F_Ar_shifted vNC
  simp only [F_Ar_shifted_14, F_Ar_shifted_17, F_Ar_shifted_25, F_Ar_shifted_55, F_Fl_has, fl_tell, fl_sz, ps_ps, ps_self]
  repeat' split
  all_goals rfl
theorem md_shifted (v b : Int32) (mu : Mu) : F_Md_shifted v b mu = (v &&& 255, ps mu 12 7 (tv 2 (vNC (nzf (v &&& 255) (tv 1 b (mu 12 7)))) (nzf (v &&& 255) (tv 1 b (mu 12 7))))) := by
  unfold F_Md_shifted vNC
  simp only [F_Md_shifted_6, F_Md_shifted_11, F_Md_shifted_33, F_Md_is, md_tell, md_nz, ps_ps, ps_self]
  repeat' split
  all_goals rfl
theorem sim_shifted {mu nu : Mu} {r b v c : Int32} (h : Rel mu nu) (hr : r = v &&& 255) (hc : (if b = 0 then (0 : Int32) else 1) = c) : SimB (F_Ar_shifted r b mu) (F_Md_shifted v c nu) := by
  rw [ar_shifted, md_shifted, hc, ← h.2.1.1, ← hr]
  have y : bF (nzf r (tv 1 c (mu 10 0))) := bF_nzf (bF_tv (by decide) (by rw [← hc]; exact z_if) h.2.1.2)
  exact sim_ff h (by rw [hr]; exact bB_and _) (bF_tv (by decide) (z_vNC _) y)
theorem ar_counted (r b : Int32) (mu : Mu) : F_Ar_counted r b mu = (r, ps mu 10 0 (tv 2 b (nzf r (mu 10 0)))) := by
  unfold F_Ar_counted
  simp only [F_Ar_counted_8, fl_tell, fl_sz, ps_ps, ps_self]
theorem ar_negated (m : Int32) (mu : Mu) : F_Ar_negated m mu = ((-m) &&& 255, ps mu 10 0 (tv 1 (if ((-m) &&& 255) = 0 then 0 else 1) (tv 2 (if ((-m) &&& 255) = 128 then 1 else 0) (nzf ((-m) &&& 255) (mu 10 0))))) := by
  unfold F_Ar_negated
  simp only [F_Ar_negated_15, F_Ar_negated_32, F_Ar_negated_35, F_Ar_negated_49, fl_tell, fl_sz, ps_ps, ps_self]
  generalize (-m) &&& 255 = r
  by_cases h1 : r = 128
  · simp +decide only [h1, ↓reduceIte]
  · by_cases h2 : r = 0
    · simp +decide only [h2, ↓reduceIte]
    · simp only [h1, h2, ↓reduceIte]
theorem tv22 : ∀ b ∈ ([0, 1] : List Int32), ∀ j, j < 64 → tv 2 b (tv 2 0 (nI j)) = tv 2 b (nI j) := by decide +kernel
theorem tv_22 {b x : Int32} (hb : z01 b) (hx : bF x) : tv 2 b (tv 2 0 x) = tv 2 b x := by
  obtain ⟨j, hj, rfl⟩ := bF_of hx
  exact tv22 b (z_mem hb) j hj
theorem md_neg (m : Int32) (mu : Mu) : F_Md_single_90 ((F_Md_nzv (-m) mu).1) ((F_Md_nzv (-m) mu).2) = ((-m) &&& 255, ps mu 12 7 (tv 1 (if ((-m) &&& 255) = 0 then 0 else 1) (tv 2 (if ((-m) &&& 255) = 128 then 1 else 0) (nzf ((-m) &&& 255) (tv 2 0 (mu 12 7)))))) := by
  unfold F_Md_single_90
  simp only [F_Md_single_107, F_Md_single_110, F_Md_single_122, md_tell, md_nzv, ps_ps, ps_self]
  generalize (-m) &&& 255 = r
  by_cases h1 : r = 128
  · simp +decide only [h1, ↓reduceIte]
  · by_cases h2 : r = 0
    · simp +decide only [h2, ↓reduceIte]
    · simp only [h1, h2, ↓reduceIte]
/-! what the single ones do, by the digit -/
theorem b_rows : ∀ m, m < 256 → (nI m >>> ((1 : Int32) &&& 31)) &&& 255 = nI m >>> ((1 : Int32) &&& 31) ∧ ((nI m >>> ((1 : Int32) &&& 31)) ||| (nI m &&& 128)) &&& 255 = (nI m >>> ((1 : Int32) &&& 31)) ||| (nI m &&& 128) ∧ (nI m >>> ((7 : Int32) &&& 31) = 0 ↔ nI m ≤ 127) ∧ nI m &&& 255 = nI m ∧ (nI m ^^^ 255) = (nI m ^^^ (-1 : Int32)) &&& 255 := by decide +kernel
theorem b_rows2 : ∀ c ∈ ([0, 1] : List Int32), ∀ m, m < 256 → ((nI m >>> ((1 : Int32) &&& 31)) ||| (c <<< ((7 : Int32) &&& 31))) &&& 255 = (nI m >>> ((1 : Int32) &&& 31)) ||| (c <<< ((7 : Int32) &&& 31)) ∧ ((nI m <<< ((1 : Int32) &&& 31)) ||| c) &&& 255 = ((nI m <<< ((1 : Int32) &&& 31)) &&& 255) ||| c := by decide +kernel
theorem carry01 (x : Int32) : (if (x &&& 1) = 0 then (0 : Int32) else 1) = x &&& 1 := by
  rcases i_and1 x with h | h <;> rw [h] <;> rfl
/-- the digits that are singles -/
def isSg (d : Int32) : Prop := d = 0 ∨ d = 3 ∨ d = 4 ∨ d = 6 ∨ d = 7 ∨ d = 8 ∨ d = 9 ∨ d = 10 ∨ d = 12 ∨ d = 13 ∨ d = 15
theorem rel_tell {mu nu : Mu} {f b : Int32} (h : Rel mu nu) (hf : f ∈ FL) (hb : z01 b) : Rel (F_Fl_tell f b mu) (F_Md_tell f b nu) := by
  rw [fl_tell, md_tell, ← h.2.1.1]; exact rel_f h (bF_tv hf hb h.2.1.2)
theorem md_single (d m : Int32) (mu : Mu) : F_Md_single d m mu = F_Md_single_13 d m ((mu 12 7) &&& 1) mu := by
  unfold F_Md_single F_Md_is
  rcases i_and1 (mu 12 7) with h | h <;> rw [h] <;> simp +decide only [↓reduceIte]
theorem sim_changed {mu nu : Mu} {d m : Int32} (h : Rel mu nu) (hd : isSg d) (hm : bB m) : SimB (F_Ar_changed d m mu) (F_Md_single d m nu) := by
  obtain ⟨j, hj, rfl⟩ := bB_of hm
  have R := b_rows j hj
  have hx := h.2.1.2
  rw [md_single]
  have hc1 : z01 (mu 10 0 &&& 1) := i_and1 _
  rcases hd with rfl | rfl | rfl | rfl | rfl | rfl | rfl | rfl | rfl | rfl | rfl
  · simp +decide only [F_Ar_changed, F_Md_single_13, ↓reduceIte]
    rw [md_neg, ar_negated, ← h.2.1.1]
    have q1 : tv 2 (if (-nI j &&& 255) = 128 then 1 else 0) (nzf (-nI j &&& 255) (tv 2 0 (mu 10 0))) = tv 2 (if (-nI j &&& 255) = 128 then 1 else 0) (nzf (-nI j &&& 255) (mu 10 0)) := by
      rw [nzf_tv (by decide) (by decide) (by decide) z_if' (bF_tv (by decide) (Or.inl rfl) hx), tv_22 z_if' hx, ← nzf_tv (by decide) (by decide) (by decide) z_if' hx]
    rw [q1]
    exact sim_ff h (bB_and _) (bF_tv (by decide) z_if (bF_tv (by decide) z_if' (bF_nzf hx)))
  · simp +decide only [F_Ar_changed, F_Md_single_13, ↓reduceIte]
    exact sim_told (rel_tell h (by decide) (Or.inr rfl)) R.2.2.2.2
  · simp +decide only [F_Ar_changed, F_Md_single_13, ↓reduceIte]
    split
    · rename_i q; exact sim_shifted h R.1.symm (by rw [if_pos q])
    · rename_i q; exact sim_shifted h R.1.symm (by rw [if_neg q])
  · simp +decide only [F_Ar_changed, F_Md_single_13, ↓reduceIte]
    have R2 := (b_rows2 (mu 10 0 &&& 1) (z_mem hc1) j hj).1
    unfold F_Ar_carry
    rw [← h.2.1.1]
    split
    · rename_i q; exact sim_shifted h R2.symm (by rw [if_pos q])
    · rename_i q; exact sim_shifted h R2.symm (by rw [if_neg q])
  · simp +decide only [F_Ar_changed, F_Md_single_13, ↓reduceIte]
    split
    · rename_i q; exact sim_shifted h R.2.1.symm (by rw [if_pos q])
    · rename_i q; exact sim_shifted h R.2.1.symm (by rw [if_neg q])
  · simp +decide only [F_Ar_changed, F_Md_single_13, ↓reduceIte]
    split
    · rename_i q; exact sim_shifted h rfl (by rw [if_pos (R.2.2.1.mpr q)])
    · rename_i q; exact sim_shifted h rfl (by rw [if_neg (fun z => q (R.2.2.1.mp z))])
  · simp +decide only [F_Ar_changed, F_Md_single_13, ↓reduceIte]
    have R2 := (b_rows2 (mu 10 0 &&& 1) (z_mem hc1) j hj).2
    unfold F_Ar_carry
    rw [← h.2.1.1]
    split
    · rename_i q; exact sim_shifted h R2.symm (by rw [if_pos (R.2.2.1.mpr q)])
    · rename_i q; exact sim_shifted h R2.symm (by rw [if_neg (fun z => q (R.2.2.1.mp z))])
  · simp +decide only [F_Ar_changed, F_Md_single_13, ↓reduceIte]
    split
    · simp only [F_Ar_changed_209, F_Md_single_264, F_Md_single_267, ar_counted, md_tell, md_nz, ps_ps, ps_self]
      rw [← h.2.1.1, nzf_tv (by decide) (by decide) (by decide) (Or.inr rfl) hx]
      exact sim_ff h (bB_and _) (bF_nzf (bF_tv (by decide) (Or.inr rfl) hx))
    · simp only [F_Ar_changed_209, F_Md_single_264, F_Md_single_267, ar_counted, md_tell, md_nz, ps_ps, ps_self]
      rw [← h.2.1.1, nzf_tv (by decide) (by decide) (by decide) (Or.inl rfl) hx]
      exact sim_ff h (bB_and _) (bF_nzf (bF_tv (by decide) (Or.inl rfl) hx))
  · simp +decide only [F_Ar_changed, F_Md_single_13, ↓reduceIte]
    split
    · simp only [F_Ar_changed_232, F_Md_single_288, F_Md_single_291, ar_counted, md_tell, md_nz, ps_ps, ps_self]
      rw [← h.2.1.1, nzf_tv (by decide) (by decide) (by decide) (Or.inr rfl) hx]
      exact sim_ff h (bB_and _) (bF_nzf (bF_tv (by decide) (Or.inr rfl) hx))
    · simp only [F_Ar_changed_232, F_Md_single_288, F_Md_single_291, ar_counted, md_tell, md_nz, ps_ps, ps_self]
      rw [← h.2.1.1, nzf_tv (by decide) (by decide) (by decide) (Or.inl rfl) hx]
      exact sim_ff h (bB_and _) (bF_nzf (bF_tv (by decide) (Or.inl rfl) hx))
  · simp +decide only [F_Ar_changed, F_Md_single_13, ↓reduceIte]
    exact sim_told (rel_tell h (by decide) (Or.inl rfl)) R.2.2.2.1.symm
  · simp +decide only [F_Ar_changed, F_Md_single_13, ↓reduceIte]
    exact sim_told (r := 0) (v := 0) (rel_tell h (by decide) (Or.inl rfl)) (by decide)
/-! two operands -/
def isTw (d : Int32) : Prop := d = 0 ∨ d = 1 ∨ d = 2 ∨ d = 4 ∨ d = 5 ∨ d = 6 ∨ d = 8 ∨ d = 9 ∨ d = 10 ∨ d = 11
theorem md_withTwo (d a m : Int32) (mu : Mu) : F_Md_withTwo d a m mu = F_Md_withTwo_13 d a m ((mu 12 7) &&& 1) mu := by
  unfold F_Md_withTwo F_Md_is
  rcases i_and1 (mu 12 7) with h | h <;> rw [h] <;> simp +decide only [↓reduceIte]
theorem b_and8 {a b : Nat} (ha : a < 256) : nI a &&& nI b = (nI a &&& nI b) &&& 255 := by
  rw [nx_and, show (255 : Int32) = nI (2 ^ 8 - 1) from rfl, nx_and, Nat.and_two_pow_sub_one_eq_mod, Nat.mod_eq_of_lt (Nat.lt_of_le_of_lt Nat.and_le_left ha)]
theorem b_xor8 {a b : Nat} (ha : a < 256) (hb : b < 256) : nI a ^^^ nI b = (nI a ^^^ nI b) &&& 255 := by
  rw [nx_xor, show (255 : Int32) = nI (2 ^ 8 - 1) from rfl, nx_and, Nat.and_two_pow_sub_one_eq_mod, Nat.mod_eq_of_lt (Nat.xor_lt_two_pow (n := 8) ha hb)]
theorem b_or8 {a b : Nat} (ha : a < 256) (hb : b < 256) : nI a ||| nI b = (nI a ||| nI b) &&& 255 := by
  rw [nx_or, show (255 : Int32) = nI (2 ^ 8 - 1) from rfl, nx_and, Nat.and_two_pow_sub_one_eq_mod, Nat.mod_eq_of_lt (Nat.or_lt_two_pow (n := 8) ha hb)]
theorem sim_combined {mu nu : Mu} {d a m : Int32} (h : Rel mu nu) (hd : isTw d) (ha : bB a) (hm : bB m) : SimB (F_Ar_combined d a m mu) (F_Md_withTwo d a m nu) := by
  have hc1 : z01 (mu 10 0 &&& 1) := i_and1 _
  rw [md_withTwo, ← h.2.1.1]
  have ha' := ha
  have hm' := hm
  obtain ⟨i, hi, rfl⟩ := bB_of ha
  obtain ⟨j, hj, rfl⟩ := bB_of hm
  rcases hd with rfl | rfl | rfl | rfl | rfl | rfl | rfl | rfl | rfl | rfl
  · simp +decide only [F_Ar_combined, F_Md_withTwo_13, ↓reduceIte]
    exact sim_diff h ha' hm' (Or.inl rfl)
  · simp +decide only [F_Ar_combined, F_Md_withTwo_13, ↓reduceIte]
    exact ⟨rfl, ha', (sim_diff h ha' hm' (Or.inl rfl)).2.2⟩
  · simp +decide only [F_Ar_combined, F_Md_withTwo_13, ↓reduceIte]
    exact sim_diff h ha' hm' hc1
  · simp +decide only [F_Ar_combined, F_Md_withTwo_13, ↓reduceIte]
    exact sim_told h (b_and8 hi)
  · simp +decide only [F_Ar_combined, F_Md_withTwo_13, ↓reduceIte]
    exact ⟨rfl, ha', (sim_told h (b_and8 hi)).2.2⟩
  · simp +decide only [F_Ar_combined, F_Md_withTwo_13, ↓reduceIte]
    exact sim_told h (b_rows j hj).2.2.2.1.symm
  · simp +decide only [F_Ar_combined, F_Md_withTwo_13, ↓reduceIte]
    exact sim_told h (b_xor8 hi hj)
  · simp +decide only [F_Ar_combined, F_Md_withTwo_13, ↓reduceIte]
    exact sim_sum h ha' hm' hc1
  · simp +decide only [F_Ar_combined, F_Md_withTwo_13, ↓reduceIte]
    exact sim_told h (b_or8 hi hj)
  · simp +decide only [F_Ar_combined, F_Md_withTwo_13, F_Md_withTwo_152, ↓reduceIte]
    exact sim_sum h ha' hm' (Or.inl rfl)
