/-! sums and differences -/
def SimB (p q : Int32 × Mu) : Prop := p.1 = q.1 ∧ bB p.1 ∧ Rel p.2 q.2
def SimW (p q : Int32 × Mu) : Prop := p.1 = q.1 ∧ bW p.1 ∧ Rel p.2 q.2
theorem sim_ff {mu nu : Mu} {r f : Int32} (h : Rel mu nu) (hr : bB r) (hf : bF f) : SimB (r, ps mu 10 0 f) (r, ps nu 12 7 f) := ⟨rfl, hr, rel_f h hf⟩
theorem sim_fw {mu nu : Mu} {r f : Int32} (h : Rel mu nu) (hr : bW r) (hf : bF f) : SimW (r, ps mu 10 0 f) (r, ps nu 12 7 f) := ⟨rfl, hr, rel_f h hf⟩
def cV8 (x y : Int32) : Int32 := if ((x &&& y) &&& 128) = 0 then 0 else 1
def cW8 (w : Int32) : Int32 := if w < (-128 : Int32) then 1 else (if w ≤ 127 then 0 else 1)
def sg8 (x : Int32) : Int32 := if x ≤ 127 then x else x - 256
theorem ar_sum (a m c : Int32) (mu : Mu) : F_Ar_sum a m c mu = (((a + m) + c) &&& 255, ps mu 10 0 (tv 1 (if ((a + m) + c) ≤ 255 then 0 else 1) (tv 2 (cV8 (a ^^^ (((a + m) + c) &&& 255)) (m ^^^ (((a + m) + c) &&& 255))) (nzf (((a + m) + c) &&& 255) (tv 32 (if (((a &&& 15) + (m &&& 15)) + c) ≤ 15 then 0 else 1) (mu 10 0)))))) := by
  unfold F_Ar_sum cV8
  simp only [F_Ar_sum_42, F_Ar_sum_45, F_Ar_sum_54, F_Ar_sum_80, F_Ar_sum_83, F_Ar_sum_101, fl_tell, fl_sz, ps_ps, ps_self]
  by_cases h1 : (((a &&& 15) + (m &&& 15)) + c) ≤ 15 <;> by_cases h2 : (((a ^^^ (((a + m) + c) &&& 255)) &&& (m ^^^ (((a + m) + c) &&& 255))) &&& 128) = 0 <;> by_cases h3 : ((a + m) + c) ≤ 255 <;> simp only [h1, h2, h3, ↓reduceIte]
theorem md_signed (x : Int32) (mu : Mu) : F_Md_signed x mu = sg8 x := rfl
theorem md_plus (a m c : Int32) (mu : Mu) : F_Md_plus a m c mu = (((a + m) + c) &&& 255, ps mu 12 7 (nzf (((a + m) + c) &&& 255) (tv 1 (if ((a + m) + c) ≤ 255 then 0 else 1) (tv 2 (cW8 ((sg8 a + sg8 m) + c)) (tv 32 (if (((a &&& 15) + (m &&& 15)) + c) ≤ 15 then 0 else 1) (mu 12 7)))))) := by
  unfold F_Md_plus cW8
  simp only [F_Md_plus_37, F_Md_plus_40, F_Md_plus_56, F_Md_plus_61, F_Md_plus_64, F_Md_plus_82, F_Md_plus_85, md_tell, md_nz, md_signed, ps_ps, ps_self]
  by_cases h1 : (((a &&& 15) + (m &&& 15)) + c) ≤ 15 <;> by_cases h2 : ((sg8 a + sg8 m) + c) < (-128 : Int32) <;> by_cases h4 : ((sg8 a + sg8 m) + c) ≤ 127 <;> by_cases h3 : ((a + m) + c) ≤ 255 <;> simp only [h1, h2, h3, h4, ↓reduceIte]
theorem ar_diff (a m c : Int32) (mu : Mu) : F_Ar_difference a m c mu = (((a - m) - c) &&& 255, ps mu 10 0 (tv 1 (if 0 ≤ ((a - m) - c) then 0 else 1) (tv 2 (cV8 (a ^^^ m) (a ^^^ (((a - m) - c) &&& 255))) (nzf (((a - m) - c) &&& 255) (mu 10 0))))) := by
  unfold F_Ar_difference cV8
  simp only [F_Ar_difference_24, F_Ar_difference_49, F_Ar_difference_52, F_Ar_difference_67, fl_tell, fl_sz, ps_ps, ps_self]
  by_cases h2 : (((a ^^^ m) &&& (a ^^^ (((a - m) - c) &&& 255))) &&& 128) = 0 <;> by_cases h3 : 0 ≤ ((a - m) - c) <;> simp only [h2, h3, ↓reduceIte]
theorem md_less (a m c : Int32) (mu : Mu) : F_Md_less a m c mu = (((a - m) - c) &&& 255, ps mu 12 7 (nzf (((a - m) - c) &&& 255) (tv 1 (if 0 ≤ ((a - m) - c) then 0 else 1) (tv 2 (cW8 ((sg8 a - sg8 m) - c)) (mu 12 7))))) := by
  unfold F_Md_less cW8
  simp only [F_Md_less_29, F_Md_less_34, F_Md_less_37, F_Md_less_52, F_Md_less_55, md_tell, md_nz, md_signed, ps_ps, ps_self]
  by_cases h2 : ((sg8 a - sg8 m) - c) < (-128 : Int32) <;> by_cases h4 : ((sg8 a - sg8 m) - c) ≤ 127 <;> by_cases h3 : 0 ≤ ((a - m) - c) <;> simp only [h2, h3, h4, ↓reduceIte]
theorem z_cV8 (x y : Int32) : z01 (cV8 x y) := z_if
theorem z_cW8 (w : Int32) : z01 (cW8 w) := by unfold cW8; split; exact Or.inr rfl; split; exact Or.inl rfl; exact Or.inr rfl
theorem e127 : (127 : Int32).toInt = 127 := by decide
theorem e256 : (256 : Int32).toInt = 256 := by decide
theorem em128 : (-128 : Int32).toInt = -128 := by decide
theorem sg8_int {j : Nat} (h : j < 256) : (sg8 (nI j)).toInt = if j < 128 then (j : Int) else (j : Int) - 256 := by
  unfold sg8
  have hj := nI_toInt (n := j) (by omega)
  by_cases c : nI j ≤ 127
  · rw [if_pos c, hj]
    rw [i_le, hj, e127] at c
    rw [if_pos (by omega)]
  · rw [if_neg c, i_sub (by rw [hj, e256]; omega) (by rw [hj, e256]; omega), hj, e256]
    rw [i_le, hj, e127] at c
    rw [if_neg (by omega)]
theorem cW8_int {w : Int32} {i : Int} (h : w.toInt = i) : cW8 w = if i < -128 ∨ 127 < i then 1 else 0 := by
  unfold cW8
  simp only [i_lt, i_le, h, em128, e127]
  by_cases a : i < -128
  · rw [if_pos a, if_pos (Or.inl a)]
  · by_cases b : i ≤ 127
    · rw [if_neg a, if_pos b, if_neg (by omega)]
    · rw [if_neg a, if_neg b, if_pos (Or.inr (by omega))]
theorem cV8_nat {a b c d : Nat} (ha : a < 256) (hb : b < 256) (hc : c < 256) (hd : d < 256) : cV8 (nI a ^^^ nI b) (nI c ^^^ nI d) = if (a < 128 ↔ b < 128) ∨ (c < 128 ↔ d < 128) then 0 else 1 := by
  unfold cV8
  have e : ((nI a ^^^ nI b) &&& (nI c ^^^ nI d)) &&& 128 = 0 ↔ ((a < 128 ↔ b < 128) ∨ (c < 128 ↔ d < 128)) := by
    rw [nx_xor, nx_xor, nx_and, show (128 : Int32) = nI (2 ^ 7) from rfl, nx_bit 7 (by decide), nx_top]
    omega
  by_cases q : (a < 128 ↔ b < 128) ∨ (c < 128 ↔ d < 128)
  · rw [if_pos (e.mpr q), if_pos q]
  · rw [if_neg (fun z => q (e.mp z)), if_neg q]
theorem v_sum {a m : Nat} {c : Int32} (ha : a < 256) (hm : m < 256) (hc : z01 c) : cV8 (nI a ^^^ (((nI a + nI m) + c) &&& 255)) (nI m ^^^ (((nI a + nI m) + c) &&& 255)) = cW8 ((sg8 (nI a) + sg8 (nI m)) + c) := by
  obtain ⟨k, hk, rfl⟩ : ∃ k : Nat, k < 2 ∧ c = nI k := by rcases hc with rfl | rfl; exact ⟨0, by decide, rfl⟩; exact ⟨1, by decide, rfl⟩
  have e1 : ((nI a + nI m) + nI k) &&& 255 = nI ((a + m + k) % 256) := by
    rw [nI_add, nI_add, nx_m8 (nI_toInt (by omega))]; congr 1 <;> omega
  have s1 := sg8_int ha
  have s2 := sg8_int hm
  have s3 := nI_toInt (n := k) (by omega)
  have e2 : ((sg8 (nI a) + sg8 (nI m)) + nI k).toInt = (sg8 (nI a)).toInt + (sg8 (nI m)).toInt + k := by
    have q : (sg8 (nI a) + sg8 (nI m)).toInt = (sg8 (nI a)).toInt + (sg8 (nI m)).toInt := i_add (by rw [s1, s2]; split <;> split <;> omega) (by rw [s1, s2]; split <;> split <;> omega)
    rw [i_add (by rw [q, s1, s2, s3]; split <;> split <;> omega) (by rw [q, s1, s2, s3]; split <;> split <;> omega), q, s3]
  rw [e1, cV8_nat ha (by omega) hm (by omega), cW8_int e2, s1, s2]
  by_cases x1 : a < 128 <;> by_cases x2 : m < 128 <;> by_cases x3 : (a + m + k) % 256 < 128 <;> simp only [x1, x2, x3, ↓reduceIte, iff_true, iff_false, true_iff, false_iff, not_true, not_false_iff, true_or, or_true, or_self] <;> split <;> first | rfl | omega
theorem v_diff {a m : Nat} {c : Int32} (ha : a < 256) (hm : m < 256) (hc : z01 c) : cV8 (nI a ^^^ nI m) (nI a ^^^ (((nI a - nI m) - c) &&& 255)) = cW8 ((sg8 (nI a) - sg8 (nI m)) - c) := by
  obtain ⟨k, hk, rfl⟩ : ∃ k : Nat, k < 2 ∧ c = nI k := by rcases hc with rfl | rfl; exact ⟨0, by decide, rfl⟩; exact ⟨1, by decide, rfl⟩
  have a1 := nI_toInt (n := a) (by omega)
  have a2 := nI_toInt (n := m) (by omega)
  have s3 := nI_toInt (n := k) (by omega)
  have e0 : ((nI a - nI m) - nI k).toInt = (a : Int) - m - k := by
    have q : (nI a - nI m).toInt = (a : Int) - m := by rw [i_sub (by omega) (by omega), a1, a2]
    rw [i_sub (by rw [q, s3]; omega) (by rw [q, s3]; omega), q, s3]
  have e1 : ((nI a - nI m) - nI k) &&& 255 = nI ((((a : Int) - m - k) % 256).toNat) := nx_m8 e0
  have s1 := sg8_int ha
  have s2 := sg8_int hm
  have e2 : ((sg8 (nI a) - sg8 (nI m)) - nI k).toInt = (sg8 (nI a)).toInt - (sg8 (nI m)).toInt - k := by
    have q : (sg8 (nI a) - sg8 (nI m)).toInt = (sg8 (nI a)).toInt - (sg8 (nI m)).toInt := i_sub (by rw [s1, s2]; split <;> split <;> omega) (by rw [s1, s2]; split <;> split <;> omega)
    rw [i_sub (by rw [q, s1, s2, s3]; split <;> split <;> omega) (by rw [q, s1, s2, s3]; split <;> split <;> omega), q, s3]
  rw [e1, cV8_nat ha hm ha (by omega), cW8_int e2, s1, s2]
  by_cases x1 : a < 128 <;> by_cases x2 : m < 128 <;> by_cases x3 : (((a : Int) - m - k) % 256).toNat < 128 <;> simp only [x1, x2, x3, ↓reduceIte, iff_true, iff_false, true_iff, false_iff, not_true, not_false_iff, true_or, or_true, or_self] <;> split <;> first | rfl | omega
theorem sim_sum {mu nu : Mu} {a m c : Int32} (h : Rel mu nu) (ha : bB a) (hm : bB m) (hc : z01 c) : SimB (F_Ar_sum a m c mu) (F_Md_plus a m c nu) := by
  obtain ⟨i, hi, rfl⟩ := bB_of ha
  obtain ⟨j, hj, rfl⟩ := bB_of hm
  have hx : bF (mu 10 0) := h.2.1.2
  rw [ar_sum, md_plus, v_sum hi hj hc, ← h.2.1.1]
  have y1 := bF_tv (f := 32) (b := if (((nI i &&& 15) + (nI j &&& 15)) + c) ≤ 15 then 0 else 1) (by decide) z_if hx
  rw [nzf_tv (by decide) (by decide) (by decide) (z_cW8 _) y1, nzf_tv (by decide) (by decide) (by decide) z_if (bF_tv (by decide) (z_cW8 _) y1)]
  exact sim_ff h (bB_and _) (bF_nzf (bF_tv (by decide) z_if (bF_tv (by decide) (z_cW8 _) y1)))
theorem sim_diff {mu nu : Mu} {a m c : Int32} (h : Rel mu nu) (ha : bB a) (hm : bB m) (hc : z01 c) : SimB (F_Ar_difference a m c mu) (F_Md_less a m c nu) := by
  obtain ⟨i, hi, rfl⟩ := bB_of ha
  obtain ⟨j, hj, rfl⟩ := bB_of hm
  have hx : bF (mu 10 0) := h.2.1.2
  rw [ar_diff, md_less, v_diff hi hj hc, ← h.2.1.1]
  rw [nzf_tv (by decide) (by decide) (by decide) (z_cW8 _) hx, nzf_tv (by decide) (by decide) (by decide) z_if (bF_tv (by decide) (z_cW8 _) hx)]
  exact sim_ff h (bB_and _) (bF_nzf (bF_tv (by decide) z_if (bF_tv (by decide) (z_cW8 _) hx)))
theorem sim_told {mu nu : Mu} {r v : Int32} (h : Rel mu nu) (hr : r = v &&& 255) : SimB (F_Ar_told r mu) (F_Md_nzv v nu) := by
  rw [ar_told, md_nzv, ← h.2.1.1, ← hr, nzf_tv (by decide) (by decide) (by decide) (Or.inl rfl) h.2.1.2]
  exact sim_ff h (by rw [hr]; exact bB_and _) (bF_nzf (bF_tv (by decide) (Or.inl rfl) h.2.1.2))
theorem sim_toldW {mu nu : Mu} {r v : Int32} (h : Rel mu nu) (hr : r = v &&& 65535) : SimW (F_Ar_toldWord r mu) (F_Md_loaded v nu) := by
  rw [ar_toldW, md_loaded, ← h.2.1.1, ← hr, nzw_tv (by decide) (by decide) (by decide) (Or.inl rfl) h.2.1.2]
  exact sim_fw h (by rw [hr]; exact bW_and _) (bF_nzw (bF_tv (by decide) (Or.inl rfl) h.2.1.2))
