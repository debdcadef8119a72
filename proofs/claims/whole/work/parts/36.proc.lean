/-! the order of writes: what the reference does one by one, the class does at once -/
theorem ps_comm (mu : Mu) {r k r' k' : Nat} (u v : Int32) (h : r ≠ r' ∨ k ≠ k') : ps (ps mu r k u) r' k' v = ps (ps mu r' k' v) r k u := by
  funext i j
  unfold ps va_up upd
  by_cases a : i = r'
  · by_cases b : i = r
    · have e : r = r' := b.symm.trans a
      subst e; subst b
      have hk : k ≠ k' := h.resolve_left (fun q => q rfl)
      simp only [↓reduceIte]
      by_cases c : j = k'
      · have d : ¬ j = k := fun q => hk (q.symm.trans c)
        simp only [c, d, ↓reduceIte]
        rw [if_neg (fun q => hk q.symm)]
      · simp only [c, ↓reduceIte]
    · subst a
      simp only [b, ↓reduceIte]
  · by_cases b : i = r
    · subst b
      simp only [a, ↓reduceIte]
    · simp only [a, b, ↓reduceIte]
theorem ps_o {mu : Mu} {r k r' : Nat} {v : Int32} (h : r' ≠ r) : ps mu r k v r' = mu r' := by unfold ps va_up; rw [if_neg h]
theorem ps_k {mu : Mu} {r k k' : Nat} {v : Int32} (h : k' ≠ k) : ps mu r k v r k' = mu r k' := by unfold ps va_up upd; rw [if_pos rfl, if_neg h]
theorem md_rs_c (i : Int32) (nu : Mu) (k : Nat) (v : Int32) : F_Md_readSide i (ps nu 12 k v) = ((F_Md_readSide i nu).1, ps (F_Md_readSide i nu).2 12 k v) := by
  have p17 : ∀ m : Mu, ps m 12 k v 17 = m 17 := fun _ => ps_o (by decide)
  have p16 : ∀ m : Mu, ps m 12 k v 16 = m 16 := fun _ => ps_o (by decide)
  have p15 : ∀ m : Mu, ps m 12 k v 15 = m 15 := fun _ => ps_o (by decide)
  have p18 : ∀ m : Mu, ps m 12 k v 18 = m 18 := fun _ => ps_o (by decide)
  have q17 : ∀ (m : Mu) (j : Nat) (u : Int32), ps (ps m 12 k v) 17 j u = ps (ps m 17 j u) 12 k v := fun m j u => ps_comm m v u (Or.inl (by decide))
  have q20 : ∀ (m : Mu) (j : Nat) (u : Int32), ps (ps m 12 k v) 20 j u = ps (ps m 20 j u) 12 k v := fun m j u => ps_comm m v u (Or.inl (by decide))
  simp only [F_Md_readSide, F_Md_readSide_48, F_Md_answers, p17, p16, p15, p18, q17, q20]
  by_cases a : nu 17 i.toNatClampNeg &&& 4 = 0
  · simp only [a, ↓reduceIte]
  · by_cases b : i = 0
    · simp only [a, b, ↓reduceIte]
      repeat' split
      all_goals rfl
    · simp only [a, b, ↓reduceIte]
/-- slots of the reference that its chips don't use -/
def oP (k : Nat) : Prop := k ≠ 16 ∧ k ≠ 17 ∧ k ≠ 18 ∧ k ≠ 21 ∧ k ≠ 22 ∧ k ≠ 25 ∧ k ≠ 26 ∧ k ≠ 27 ∧ k ≠ 28
theorem md_sa_c (nu : Mu) {k : Nat} (v : Int32) (h : oP k) : F_Md_serialAsks (ps nu 12 k v) = F_Md_serialAsks nu := by
  obtain ⟨h1, _, _, _, _, h2, h3, h4, h5⟩ := h
  have e1 : ps nu 12 k v 12 16 = nu 12 16 := ps_k h1.symm
  have e2 : ps nu 12 k v 12 25 = nu 12 25 := ps_k h2.symm
  have e3 : ps nu 12 k v 12 26 = nu 12 26 := ps_k h3.symm
  have e4 : ps nu 12 k v 12 27 = nu 12 27 := ps_k h4.symm
  have e5 : ps nu 12 k v 12 28 = nu 12 28 := ps_k h5.symm
  unfold F_Md_serialAsks F_Md_serialAsks_28
  rw [e1, e2, e3, e4, e5]
theorem md_ss_c (nu : Mu) {k : Nat} (v : Int32) (h : oP k) : F_Md_serialStatus (ps nu 12 k v) = F_Md_serialStatus nu := by
  have e0 := md_sa_c nu v h
  obtain ⟨h1, _, _, _, _, h2, h3, h4, h5⟩ := h
  have e3 : ps nu 12 k v 12 26 = nu 12 26 := ps_k h3.symm
  have e4 : ps nu 12 k v 12 27 = nu 12 27 := ps_k h4.symm
  have e5 : ps nu 12 k v 12 28 = nu 12 28 := ps_k h5.symm
  unfold F_Md_serialStatus F_Md_serialStatus_12 F_Md_serialStatus_24 F_Md_serialStatus_38
  rw [e0, e3, e4, e5]
theorem md_read_c (x : Int32) (nu : Mu) {k : Nat} (v : Int32) (h : oP k) : F_Md_read x (ps nu 12 k v) = ((F_Md_read x nu).1, ps (F_Md_read x nu).2 12 k v) := by
  obtain ⟨j, hj, e⟩ := w_and x
  rw [md_rd hj e, md_rd hj e, md_rs_c, md_rs_c, md_ss_c nu v h]
  have p17 : ps nu 12 k v 17 = nu 17 := ps_o (by decide)
  have p13 : ps nu 12 k v 13 = nu 13 := ps_o (by decide)
  have p14 : ps nu 12 k v 14 = nu 14 := ps_o (by decide)
  have q1 : ps (ps nu 12 k v) 12 26 0 = ps (ps nu 12 26 0) 12 k v := ps_comm nu v 0 (Or.inr h.2.2.2.2.2.2.1)
  have q2 : ps (ps (ps nu 12 26 0) 12 k v) 12 27 0 = ps (ps (ps nu 12 26 0) 12 27 0) 12 k v := ps_comm _ v 0 (Or.inr h.2.2.2.2.2.2.2.1)
  have q3 : ps nu 12 k v 12 17 = nu 12 17 := ps_k h.2.1.symm
  rw [p17, p13, p14, q1, q2, q3]
  by_cases b1 : j = 8192
  · simp only [b1, ↓reduceIte]
  by_cases b2 : j = 8193
  · simp +decide only [b2, ↓reduceIte]
  by_cases b3 : j = 8194
  · simp +decide only [b3, ↓reduceIte]
  by_cases b4 : j = 8195
  · simp +decide only [b4, ↓reduceIte]
  by_cases b5 : j = 8448
  · simp +decide only [b5, ↓reduceIte]
  by_cases b6 : j = 8449
  · simp +decide only [b6, ↓reduceIte]
  by_cases b7 : j < 1024
  · simp only [b1, b2, b3, b4, b5, b6, b7, ↓reduceIte]
  by_cases b8 : 64512 ≤ j
  · simp only [b1, b2, b3, b4, b5, b6, b7, b8, ↓reduceIte]
  · simp only [b1, b2, b3, b4, b5, b6, b7, b8, ↓reduceIte]
/-- a read keeps what it doesn't name -/
theorem md_read_k (x : Int32) (nu : Mu) {k : Nat} (h : oP k) : (F_Md_read x nu).2 12 k = nu 12 k := by
  have e := md_read_c x nu (k := k) (nu 12 k) h
  have e2 : ps nu 12 k (nu 12 k) = nu := by
    funext i j; unfold ps va_up upd
    by_cases a : i = 12
    · subst a
      by_cases b : j = k
      · subst b; simp only [↓reduceIte]
      · simp only [b, ↓reduceIte]
    · simp only [a, ↓reduceIte]
  rw [e2] at e
  have e3 := congrArg (fun q : Int32 × Mu => q.2 12 k) e
  simp only [ps_self] at e3
  exact e3
theorem md_read_m (x : Int32) (nu : Mu) : F_Md_read (x &&& 65535) nu = F_Md_read x nu := by
  obtain ⟨j, hj, e⟩ := w_and x
  rw [md_rd hj e, md_rd hj (by rw [e]; exact w_and' hj)]
theorem oP5 : oP 5 := by unfold oP; decide
theorem oP6 : oP 6 := by unfold oP; decide
/-- the reference's next, as a read with P behind it -/
theorem md_next (nu : Mu) : F_Md_next nu = F_Md_read (nu 12 6) (ps nu 12 6 ((nu 12 6 + 1) &&& 65535)) := by
  rw [md_read_c _ _ _ oP6]
  unfold F_Md_next F_Md_next_8
  rw [md_read_k _ _ oP6]
theorem w_add2 (x : Int32) : (((x + 1) &&& 65535) + 1) &&& 65535 = (x + 2) &&& 65535 := by
  have h := fun y : Int32 => pk_and y (m := 65535) 16 (by decide)
  rw [h, h, h]
  congr 1
  have e : ∀ a b : Int32, (a + b).toBitVec.toNat = (a.toBitVec.toNat + b.toBitVec.toNat) % 4294967296 := fun a b => by rw [Int32.toBitVec_add, BitVec.toNat_add]
  rw [e, e, e, pk_tn (by have := Nat.mod_lt ((x.toBitVec.toNat + (1 : Int32).toBitVec.toNat) % 4294967296) (show 0 < 2 ^ 16 by decide); omega)]
  have e1 : (1 : Int32).toBitVec.toNat = 1 := by decide
  have e2 : (2 : Int32).toBitVec.toNat = 2 := by decide
  rw [e1, e2]; omega
theorem w_add1 (x y : Int32) : ((x &&& 65535) + y) &&& 65535 = (x + y) &&& 65535 := by
  have h := fun y : Int32 => pk_and y (m := 65535) 16 (by decide)
  rw [h x, h, h]
  congr 1
  have e : ∀ a b : Int32, (a + b).toBitVec.toNat = (a.toBitVec.toNat + b.toBitVec.toNat) % 4294967296 := fun a b => by rw [Int32.toBitVec_add, BitVec.toNat_add]
  rw [e, e, pk_tn (by have := Nat.mod_lt x.toBitVec.toNat (show 0 < 2 ^ 16 by decide); omega)]
  omega
/-- a read's address counts by its lowest 16 bits -/
theorem md_read_e {x y : Int32} (nu : Mu) (h : x &&& 65535 = y &&& 65535) : F_Md_read x nu = F_Md_read y nu := by
  rw [← md_read_m x, ← md_read_m y, h]
theorem w_idem (x : Int32) : (x &&& 65535) &&& 65535 = x &&& 65535 := by
  obtain ⟨j, hj, e⟩ := w_and x
  rw [e]; exact w_and' hj
theorem md_nextWord (nu : Mu) : F_Md_nextWord nu = F_Md_readWord (nu 12 6) (ps nu 12 6 ((nu 12 6 + 2) &&& 65535)) := by
  have e1 : F_Md_next nu = ((F_Md_read (nu 12 6) nu).1, ps (F_Md_read (nu 12 6) nu).2 12 6 ((nu 12 6 + 1) &&& 65535)) := by rw [md_next, md_read_c _ _ _ oP6]
  have e2 : ∀ m : Mu, F_Md_next (ps m 12 6 ((nu 12 6 + 1) &&& 65535)) = F_Md_read (nu 12 6 + 1) (ps m 12 6 ((nu 12 6 + 2) &&& 65535)) := fun m => by
    rw [md_next, ps_self, ps_ps, w_add2, md_read_m]
  unfold F_Md_nextWord F_Md_nextWord_4 F_Md_readWord F_Md_readWord_5
  rw [e1]
  simp only [e2]
  rw [md_read_c (nu 12 6) nu _ oP6]
/-! writes -/
theorem md_ws_c (i v : Int32) (nu : Mu) (k : Nat) (u : Int32) : F_Md_writeSide i v (ps nu 12 k u) = ps (F_Md_writeSide i v nu) 12 k u := by
  have p17 : ∀ m : Mu, ps m 12 k u 17 = m 17 := fun _ => ps_o (by decide)
  have q15 : ∀ (m : Mu) (j : Nat) (w : Int32), ps (ps m 12 k u) 15 j w = ps (ps m 15 j w) 12 k u := fun m j w => ps_comm m u w (Or.inl (by decide))
  have q16 : ∀ (m : Mu) (j : Nat) (w : Int32), ps (ps m 12 k u) 16 j w = ps (ps m 16 j w) 12 k u := fun m j w => ps_comm m u w (Or.inl (by decide))
  have q20 : ∀ (m : Mu) (j : Nat) (w : Int32), ps (ps m 12 k u) 20 j w = ps (ps m 20 j w) 12 k u := fun m j w => ps_comm m u w (Or.inl (by decide))
  simp only [F_Md_writeSide, F_Md_answers, p17, q15, q16, q20]
  by_cases a : nu 17 i.toNatClampNeg &&& 4 = 0
  · simp only [a, ↓reduceIte]
  · by_cases b : i = 1
    · simp only [a, b, ↓reduceIte]
      repeat' split
      all_goals rfl
    · simp only [a, b, ↓reduceIte]
theorem md_wsc_c (i v : Int32) (nu : Mu) (k : Nat) (u : Int32) : F_Md_writeSideControl i v (ps nu 12 k u) = ps (F_Md_writeSideControl i v nu) 12 k u := by
  have p17 : ∀ m : Mu, ps m 12 k u 17 = m 17 := fun _ => ps_o (by decide)
  have q17 : ∀ (m : Mu) (j : Nat) (w : Int32), ps (ps m 12 k u) 17 j w = ps (ps m 17 j w) 12 k u := fun m j w => ps_comm m u w (Or.inl (by decide))
  have q20 : ∀ (m : Mu) (j : Nat) (w : Int32), ps (ps m 12 k u) 20 j w = ps (ps m 20 j w) 12 k u := fun m j w => ps_comm m u w (Or.inl (by decide))
  simp only [F_Md_writeSideControl, F_Md_answers, p17, q17, q20]
  repeat' split
  all_goals rfl
theorem md_wc_c (v : Int32) (nu : Mu) {k : Nat} (u : Int32) (h : oP k) : F_Md_writeSerialControl v (ps nu 12 k u) = ps (F_Md_writeSerialControl v nu) 12 k u := by
  obtain ⟨h16, h17, h18, h21, h22, h25, h26, h27, h28⟩ := h
  have q : ∀ (m : Mu) (j : Nat) (w : Int32), k ≠ j → ps (ps m 12 k u) 12 j w = ps (ps m 12 j w) 12 k u := fun m j w hj => ps_comm m u w (Or.inr hj)
  unfold F_Md_writeSerialControl F_Md_writeSerialControl_18
  simp +decide only [↓reduceIte]
  rw [q _ 16 _ h16, q _ 25 _ h25, q _ 25 _ h25, q _ 26 _ h26, q _ 27 _ h27, q _ 28 _ h28, q _ 21 _ h21, q _ 22 _ h22]
  split <;> rfl
theorem md_write_c (x v : Int32) (nu : Mu) {k : Nat} (u : Int32) (h : oP k) : F_Md_write x v (ps nu 12 k u) = ps (F_Md_write x v nu) 12 k u := by
  obtain ⟨j, hj, e⟩ := w_and x
  have h' := h
  obtain ⟨h16, h17, h18, h21, h22, h25, h26, h27, h28⟩ := h'
  rw [md_wr hj e, md_wr hj e, md_ws_c, md_ws_c, md_wsc_c, md_wsc_c, md_wc_c v nu u h]
  have e1 : ps nu 12 k u 12 25 = nu 12 25 := ps_k h25.symm
  have q1 : ps (ps nu 12 k u) 12 18 v = ps (ps nu 12 18 v) 12 k u := ps_comm nu u v (Or.inr h18)
  have q2 : ps (ps (ps nu 12 18 v) 12 k u) 12 28 1 = ps (ps (ps nu 12 18 v) 12 28 1) 12 k u := ps_comm _ u 1 (Or.inr h28)
  have q3 : ps (ps nu 12 k u) 13 j v = ps (ps nu 13 j v) 12 k u := ps_comm nu u v (Or.inl (by decide))
  rw [e1, q1, q2, q3]
  by_cases b1 : j = 8192
  · simp only [b1, ↓reduceIte]
  by_cases b2 : j = 8193
  · simp +decide only [b2, ↓reduceIte]
  by_cases b3 : j = 8194
  · simp +decide only [b3, ↓reduceIte]
  by_cases b4 : j = 8195
  · simp +decide only [b4, ↓reduceIte]
  by_cases b5 : j = 8448
  · simp +decide only [b5, ↓reduceIte]
  by_cases b6 : j = 8449
  · simp +decide only [b6, ↓reduceIte]
    split <;> rfl
  by_cases b7 : j < 1024
  · simp only [b1, b2, b3, b4, b5, b6, b7, ↓reduceIte]
  · simp only [b1, b2, b3, b4, b5, b6, b7, ↓reduceIte]
theorem ps_id (nu : Mu) (r k : Nat) : ps nu r k (nu r k) = nu := by
  funext i j; unfold ps va_up upd
  by_cases a : i = r
  · subst a
    by_cases b : j = k
    · subst b; simp only [↓reduceIte]
    · simp only [b, ↓reduceIte]
  · simp only [a, ↓reduceIte]
theorem md_write_k (x v : Int32) (nu : Mu) {k : Nat} (h : oP k) : (F_Md_write x v nu) 12 k = nu 12 k := by
  have e := md_write_c x v nu (k := k) (nu 12 k) h
  rw [ps_id] at e
  have e3 := congrArg (fun q : Mu => q 12 k) e
  simp only [ps_self] at e3
  exact e3
theorem md_write_e {x y : Int32} (v : Int32) (nu : Mu) (h : x &&& 65535 = y &&& 65535) : F_Md_write x v nu = F_Md_write y v nu := by
  obtain ⟨j, hj, e⟩ := w_and x
  rw [md_wr hj e, md_wr hj (h ▸ e)]
theorem w_sub2 (x : Int32) : (((x - 1) &&& 65535) - 1) &&& 65535 = (x - 2) &&& 65535 := by
  have h := fun y : Int32 => pk_and y (m := 65535) 16 (by decide)
  rw [h (x - 1), h, h]
  congr 1
  have e : ∀ a b : Int32, (a - b).toBitVec.toNat = (4294967296 - b.toBitVec.toNat + a.toBitVec.toNat) % 4294967296 := fun a b => by rw [Int32.toBitVec_sub, BitVec.toNat_sub]
  have e1 : (1 : Int32).toBitVec.toNat = 1 := by decide
  have e2 : (2 : Int32).toBitVec.toNat = 2 := by decide
  have hx := x.toBitVec.isLt
  rw [e, e, e, pk_tn (by have := Nat.mod_lt ((4294967296 - (1 : Int32).toBitVec.toNat + x.toBitVec.toNat) % 4294967296) (show 0 < 2 ^ 16 by decide); omega), e1, e2]
  omega
