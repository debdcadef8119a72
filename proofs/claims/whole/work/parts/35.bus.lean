/-! the bus: reads and writes by the address -/
theorem q_eq {k : Nat} (c : Nat) (hk : k < 65536) (hc : c < 2 ^ 31) : (nI k = nI c) = (k = c) := propext (nI_eq (by omega) hc)
theorem q_le {k : Nat} (c : Nat) (hk : k < 65536) (hc : c < 2 ^ 31) : (nI c ≤ nI k) = (c ≤ k) := propext (nI_leI hc (by omega))
theorem q_lt {k : Nat} (c : Nat) (hk : k < 65536) (hc : c < 2 ^ 31) : (nI k < nI c) = (k < c) := propext (nI_ltI (by omega) hc)
theorem q_cl {k : Nat} (hk : k < 65536) : (nI k).toNatClampNeg = k := nI_clamp (by omega)
theorem q_hi {k : Nat} (hk : k < 65536) (h : 64512 ≤ k) : (nI k - 64512).toNatClampNeg = k - 64512 := by
  rw [show (64512 : Int32) = nI 64512 from rfl, pk_sub h, nI_clamp (by omega)]
theorem w_and (x : Int32) : ∃ k : Nat, k < 65536 ∧ x &&& 65535 = nI k := by
  obtain ⟨j, hj, e⟩ := pk_andE x (m := 65535) 16 (by decide)
  exact ⟨j, hj, e⟩
theorem w_and' {k : Nat} (hk : k < 65536) : nI k &&& 65535 = nI k := by
  rw [nx_m16 (nI_toInt (by omega))]; congr 1 <;> omega
theorem bu_rd {x : Int32} {k : Nat} (hk : k < 65536) (e : x &&& 65535 = nI k) (mu : Mu) : F_Bu_read x mu = if k = 8192 then F_Sd4_readData mu else if k = 8193 then (mu 4 3, mu) else if k = 8194 then F_Sd5_readData mu else if k = 8195 then (mu 5 3, mu) else if k = 8448 then (F_Sc_status mu, mu) else if k = 8449 then F_Sc_readData mu else if k < 1024 then (mu 7 k, mu) else if 64512 ≤ k then (mu 8 (k - 64512), mu) else (0, mu) := by
  have a1 : (nI k = (8192 : Int32)) = (k = 8192) := q_eq 8192 hk (by decide)
  have a2 : (nI k = (8193 : Int32)) = (k = 8193) := q_eq 8193 hk (by decide)
  have a3 : (nI k = (8194 : Int32)) = (k = 8194) := q_eq 8194 hk (by decide)
  have a4 : (nI k = (8195 : Int32)) = (k = 8195) := q_eq 8195 hk (by decide)
  have a5 : (nI k = (8448 : Int32)) = (k = 8448) := q_eq 8448 hk (by decide)
  have a6 : (nI k = (8449 : Int32)) = (k = 8449) := q_eq 8449 hk (by decide)
  have a7 : ((1024 : Int32) ≤ nI k) = (1024 ≤ k) := q_le 1024 hk (by decide)
  have a8 : (nI k < (64512 : Int32)) = (k < 64512) := q_lt 64512 hk (by decide)
  have a9 : ((65536 : Int32) ≤ nI k) = (65536 ≤ k) := q_le 65536 hk (by decide)
  have a0 : (nI k < (0 : Int32)) = (k < 0) := q_lt 0 hk (by decide)
  unfold F_Bu_read F_Bu_isFree F_Bu_isReadOnly
  rw [e]
  simp only [a0, a1, a2, a3, a4, a5, a6, a7, a8, a9, q_cl hk]
  by_cases b1 : k = 8192
  · simp only [b1, ↓reduceIte]
  by_cases b2 : k = 8193
  · simp +decide only [b2, ↓reduceIte]
  by_cases b3 : k = 8194
  · simp +decide only [b3, ↓reduceIte]
  by_cases b4 : k = 8195
  · simp +decide only [b4, ↓reduceIte]
  by_cases b5 : k = 8448
  · simp +decide only [b5, ↓reduceIte]
  by_cases b6 : k = 8449
  · simp +decide only [b6, ↓reduceIte]
  have z0 : ¬ k < 0 := Nat.not_lt_zero k
  have z9 : ¬ 65536 ≤ k := by omega
  by_cases b7 : k < 1024
  · have z7 : ¬ 1024 ≤ k := by omega
    simp +decide only [b1, b2, b3, b4, b5, b6, b7, z0, z7, ↓reduceIte]
  · have z7 : 1024 ≤ k := by omega
    by_cases b8 : 64512 ≤ k
    · have z8 : ¬ k < 64512 := by omega
      simp +decide only [b1, b2, b3, b4, b5, b6, b7, b8, z0, z7, z8, z9, ↓reduceIte, q_hi hk b8]
    · have z8 : k < 64512 := by omega
      simp +decide only [b1, b2, b3, b4, b5, b6, b7, b8, z0, z7, z8, ↓reduceIte]
theorem md_rd {x : Int32} {k : Nat} (hk : k < 65536) (e : x &&& 65535 = nI k) (mu : Mu) : F_Md_read x mu = if k = 8192 then F_Md_readSide 0 mu else if k = 8193 then (mu 17 0, mu) else if k = 8194 then F_Md_readSide 1 mu else if k = 8195 then (mu 17 1, mu) else if k = 8448 then (F_Md_serialStatus mu, mu) else if k = 8449 then (mu 12 17, ps (ps mu 12 26 0) 12 27 0) else if k < 1024 then (mu 13 k, mu) else if 64512 ≤ k then (mu 14 (k - 64512), mu) else (0, mu) := by
  have a1 : (nI k < (8192 : Int32)) = (k < 8192) := q_lt 8192 hk (by decide)
  have a2 : ((8196 : Int32) ≤ nI k) = (8196 ≤ k) := q_le 8196 hk (by decide)
  have a5 : (nI k = (8448 : Int32)) = (k = 8448) := q_eq 8448 hk (by decide)
  have a6 : (nI k = (8449 : Int32)) = (k = 8449) := q_eq 8449 hk (by decide)
  have a7 : ((1024 : Int32) ≤ nI k) = (1024 ≤ k) := q_le 1024 hk (by decide)
  have a8 : (nI k < (64512 : Int32)) = (k < 64512) := q_lt 64512 hk (by decide)
  unfold F_Md_read
  rw [e]
  simp only [F_Md_read_78, a1, a2, a5, a6, a7, a8, q_cl hk]
  by_cases b1 : k = 8192
  · subst b1; rfl
  by_cases b2 : k = 8193
  · subst b2; rfl
  by_cases b3 : k = 8194
  · subst b3; rfl
  by_cases b4 : k = 8195
  · subst b4; rfl
  by_cases b5 : k = 8448
  · subst b5; rfl
  by_cases b6 : k = 8449
  · subst b6; rfl
  by_cases b7 : k < 1024
  · have z7 : ¬ 1024 ≤ k := by omega
    simp only [b1, b2, b3, b4, b5, b6, b7, z7, ↓reduceIte]
  · have z7 : 1024 ≤ k := by omega
    by_cases b8 : 64512 ≤ k
    · have z8 : ¬ k < 64512 := by omega
      simp only [b1, b2, b3, b4, b5, b6, b7, b8, z7, z8, ↓reduceIte, q_hi hk b8]
    · have z8 : k < 64512 := by omega
      by_cases b9 : k < 8192
      · simp only [b1, b2, b3, b4, b5, b6, b7, b8, b9, z7, z8, ↓reduceIte]
      · have z9 : 8196 ≤ k := by omega
        simp only [b1, b2, b3, b4, b5, b6, b7, b8, b9, z7, z8, z9, ↓reduceIte]
theorem bu_wr {x v : Int32} {k : Nat} (hk : k < 65536) (e : x &&& 65535 = nI k) (mu : Mu) : F_Bu_write x v mu = if k = 8192 then F_Sd4_writeData v mu else if k = 8193 then F_Sd4_writeControl v mu else if k = 8194 then F_Sd5_writeData v mu else if k = 8195 then F_Sd5_writeControl v mu else if k = 8448 then F_Sc_writeControl v mu else if k = 8449 then F_Sc_writeData v mu else if k < 1024 then ps mu 7 k v else mu := by
  have a1 : (nI k = (8192 : Int32)) = (k = 8192) := q_eq 8192 hk (by decide)
  have a2 : (nI k = (8193 : Int32)) = (k = 8193) := q_eq 8193 hk (by decide)
  have a3 : (nI k = (8194 : Int32)) = (k = 8194) := q_eq 8194 hk (by decide)
  have a4 : (nI k = (8195 : Int32)) = (k = 8195) := q_eq 8195 hk (by decide)
  have a5 : (nI k = (8448 : Int32)) = (k = 8448) := q_eq 8448 hk (by decide)
  have a6 : (nI k = (8449 : Int32)) = (k = 8449) := q_eq 8449 hk (by decide)
  have a7 : ((1024 : Int32) ≤ nI k) = (1024 ≤ k) := q_le 1024 hk (by decide)
  have a0 : (nI k < (0 : Int32)) = (k < 0) := q_lt 0 hk (by decide)
  unfold F_Bu_write F_Bu_isFree
  rw [e]
  simp only [a0, a1, a2, a3, a4, a5, a6, a7, q_cl hk]
  by_cases b1 : k = 8192
  · simp only [b1, ↓reduceIte]
  by_cases b2 : k = 8193
  · simp +decide only [b2, ↓reduceIte]
  by_cases b3 : k = 8194
  · simp +decide only [b3, ↓reduceIte]
  by_cases b4 : k = 8195
  · simp +decide only [b4, ↓reduceIte]
  by_cases b5 : k = 8448
  · simp +decide only [b5, ↓reduceIte]
  by_cases b6 : k = 8449
  · simp +decide only [b6, ↓reduceIte]
  have z0 : ¬ k < 0 := Nat.not_lt_zero k
  by_cases b7 : k < 1024
  · have z7 : ¬ 1024 ≤ k := by omega
    simp +decide only [b1, b2, b3, b4, b5, b6, b7, z0, z7, ↓reduceIte]
  · have z7 : 1024 ≤ k := by omega
    simp +decide only [b1, b2, b3, b4, b5, b6, b7, z0, z7, ↓reduceIte]
theorem md_wr {x v : Int32} {k : Nat} (hk : k < 65536) (e : x &&& 65535 = nI k) (mu : Mu) : F_Md_write x v mu = if k = 8192 then F_Md_writeSide 0 v mu else if k = 8193 then F_Md_writeSideControl 0 v mu else if k = 8194 then F_Md_writeSide 1 v mu else if k = 8195 then F_Md_writeSideControl 1 v mu else if k = 8448 then F_Md_writeSerialControl v mu else if k = 8449 then (if mu 12 25 = 0 then ps (ps mu 12 18 v) 12 28 1 else mu) else if k < 1024 then ps mu 13 k v else mu := by
  have a1 : (nI k < (8192 : Int32)) = (k < 8192) := q_lt 8192 hk (by decide)
  have a2 : ((8196 : Int32) ≤ nI k) = (8196 ≤ k) := q_le 8196 hk (by decide)
  have a5 : (nI k = (8448 : Int32)) = (k = 8448) := q_eq 8448 hk (by decide)
  have a6 : (nI k = (8449 : Int32)) = (k = 8449) := q_eq 8449 hk (by decide)
  have a7 : ((1024 : Int32) ≤ nI k) = (1024 ≤ k) := q_le 1024 hk (by decide)
  unfold F_Md_write
  rw [e]
  simp only [F_Md_write_19, F_Md_write_49, F_Md_write_80, F_Md_write_92, a1, a2, a5, a6, a7, q_cl hk]
  by_cases b1 : k = 8192
  · subst b1; rfl
  by_cases b2 : k = 8193
  · subst b2; rfl
  by_cases b3 : k = 8194
  · subst b3; rfl
  by_cases b4 : k = 8195
  · subst b4; rfl
  by_cases b5 : k = 8448
  · subst b5; rfl
  by_cases b6 : k = 8449
  · subst b6; rfl
  by_cases b7 : k < 1024
  · have z7 : ¬ 1024 ≤ k := by omega
    have b9 : k < 8192 := by omega
    simp only [b1, b2, b3, b4, b5, b6, b7, b9, z7, ↓reduceIte]
  · have z7 : 1024 ≤ k := by omega
    by_cases b9 : k < 8192
    · simp only [b1, b2, b3, b4, b5, b6, b7, b9, z7, ↓reduceIte]
    · have z9 : 8196 ≤ k := by omega
      simp only [b1, b2, b3, b4, b5, b6, b7, b9, z7, z9, ↓reduceIte]
/-! the serial chip's words -/
theorem sc_asks {mu nu : Mu} (h : Rel mu nu) : F_Sc_asks mu = F_Md_serialAsks nu := by
  obtain ⟨r1, r2, r3, r4, _, _, _, _, _, _, r5⟩ := id h.2.2.2.2.2.1
  unfold F_Sc_asks F_Md_serialAsks
  simp only [F_Sc_asks_32, F_Sc_asks_33, F_Sc_asks_59, F_Sc_asks_63, F_Sc_asks_64, F_Md_serialAsks_28]
  rw [← r1, ← r2, ← r3, ← r4]
  by_cases a : mu 1 6 = 0
  · rw [← r5 a]
    by_cases b : mu 1 5 &&& 96 = 32 <;> by_cases c : mu 1 9 = 0 <;> by_cases d : mu 1 5 &&& 128 = 0 <;> by_cases e : mu 1 7 = 0 <;> by_cases f : mu 1 8 = 0 <;> simp +decide only [a, b, c, d, e, f, ↓reduceIte]
  · simp only [a, ↓reduceIte]
theorem sc_status {mu nu : Mu} (h : Rel mu nu) : F_Sc_status mu = F_Md_serialStatus nu ∧ bB (F_Sc_status mu) := by
  obtain ⟨r1, r2, r3, r4, _, _, _, _, _, _, r5⟩ := id h.2.2.2.2.2.1
  unfold F_Sc_status F_Md_serialStatus
  simp only [F_Sc_status_12, F_Sc_status_24, F_Sc_status_38, F_Md_serialStatus_12, F_Md_serialStatus_24, F_Md_serialStatus_38]
  rw [← sc_asks h, ← r2, ← r3, ← r4]
  by_cases c : mu 1 9 = 0 <;> by_cases e : mu 1 7 = 0 <;> by_cases f : mu 1 8 = 0 <;> by_cases g : F_Sc_asks mu = 0 <;> simp +decide only [c, e, f, g, ↓reduceIte, bB]
theorem sim_read {mu nu : Mu} (x : Int32) (h : Rel mu nu) : SimB (F_Bu_read x mu) (F_Md_read x nu) := by
  obtain ⟨k, hk, e⟩ := w_and x
  rw [bu_rd hk e, md_rd hk e]
  by_cases b1 : k = 8192
  · rw [if_pos b1, if_pos b1]; exact sim_rd4 h
  rw [if_neg b1, if_neg b1]
  by_cases b2 : k = 8193
  · rw [if_pos b2, if_pos b2]; exact ⟨h.2.2.2.1.2.2.1.1, h.2.2.2.1.2.2.1.2, h⟩
  rw [if_neg b2, if_neg b2]
  by_cases b3 : k = 8194
  · rw [if_pos b3, if_pos b3]; exact sim_rd5 h
  rw [if_neg b3, if_neg b3]
  by_cases b4 : k = 8195
  · rw [if_pos b4, if_pos b4]; exact ⟨h.2.2.2.2.1.2.2.1.1, h.2.2.2.2.1.2.2.1.2, h⟩
  rw [if_neg b4, if_neg b4]
  by_cases b5 : k = 8448
  · rw [if_pos b5, if_pos b5]; exact ⟨(sc_status h).1, (sc_status h).2, h⟩
  rw [if_neg b5, if_neg b5]
  by_cases b6 : k = 8449
  · rw [if_pos b6, if_pos b6]
    exact ⟨h.2.2.2.2.2.1.2.2.2.2.2.2.2.2.2.1.1, h.2.2.2.2.2.1.2.2.2.2.2.2.2.2.2.1.2, rel_over (rel_full h)⟩
  rw [if_neg b6, if_neg b6]
  by_cases b7 : k < 1024
  · rw [if_pos b7, if_pos b7]; exact ⟨(h.2.2.1 k b7).1.1, (h.2.2.1 k b7).1.2, h⟩
  rw [if_neg b7, if_neg b7]
  by_cases b8 : 64512 ≤ k
  · rw [if_pos b8, if_pos b8]
    have z : k - 64512 < 1024 := by omega
    exact ⟨(h.2.2.1 _ z).2.1, (h.2.2.1 _ z).2.2, h⟩
  · rw [if_neg b8, if_neg b8]; exact ⟨rfl, (show bB 0 from by unfold bB; decide), h⟩
/-- the serial control is written: what a reset clears -/
theorem rel_held {mu nu : Mu} {v : Int32} (h : Rel mu nu) (hc : v = 0 → mu 1 5 = nu 12 16) : Rel (ps mu 1 6 v) (ps nu 12 25 v) :=
  ⟨h.1, h.2.1, h.2.2.1, h.2.2.2.1, h.2.2.2.2.1, ⟨rfl, h.2.2.2.2.2.1.2.1, h.2.2.2.2.2.1.2.2.1, h.2.2.2.2.2.1.2.2.2.1, h.2.2.2.2.2.1.2.2.2.2.1, h.2.2.2.2.2.1.2.2.2.2.2.1, h.2.2.2.2.2.1.2.2.2.2.2.2.1, h.2.2.2.2.2.1.2.2.2.2.2.2.2.1, h.2.2.2.2.2.1.2.2.2.2.2.2.2.2.1, h.2.2.2.2.2.1.2.2.2.2.2.2.2.2.2.1, hc⟩, h.2.2.2.2.2.2.1, h.2.2.2.2.2.2.2⟩
theorem rel_sc {mu nu : Mu} {v : Int32} (h : Rel mu nu) : Rel (F_Sc_writeControl v mu) (F_Md_writeSerialControl v nu) := by
  have h1 : Rel (ps mu 1 5 v) (ps nu 12 16 v) := rel_sctl h
  have hc : (ps mu 1 5 v) 1 5 = (ps nu 12 16 v) 12 16 := rfl
  unfold F_Sc_writeControl F_Md_writeSerialControl F_Sc_writeControl_18 F_Md_writeSerialControl_18
  by_cases a : v &&& 3 = 3
  · simp +decide only [a, ↓reduceIte]
    have n : n0 0 := by unfold n0; decide
    exact rel_so (rel_si (rel_wait (rel_over (rel_full (rel_held h1 (fun _ => hc))))) n) n
  · simp +decide only [a, ↓reduceIte]
    exact rel_held h1 (fun _ => hc)
theorem rel_write {mu nu : Mu} {v : Int32} (x : Int32) (h : Rel mu nu) (hv : bB v) : Rel (F_Bu_write x v mu) (F_Md_write x v nu) := by
  obtain ⟨k, hk, e⟩ := w_and x
  rw [bu_wr hk e, md_wr hk e]
  by_cases b1 : k = 8192
  · rw [if_pos b1, if_pos b1]; exact rel_wd4 h hv
  rw [if_neg b1, if_neg b1]
  by_cases b2 : k = 8193
  · rw [if_pos b2, if_pos b2]; exact rel_wc4 h
  rw [if_neg b2, if_neg b2]
  by_cases b3 : k = 8194
  · rw [if_pos b3, if_pos b3]; exact rel_wd5 h hv
  rw [if_neg b3, if_neg b3]
  by_cases b4 : k = 8195
  · rw [if_pos b4, if_pos b4]; exact rel_wc5 h
  rw [if_neg b4, if_neg b4]
  by_cases b5 : k = 8448
  · rw [if_pos b5, if_pos b5]; exact rel_sc h
  rw [if_neg b5, if_neg b5]
  by_cases b6 : k = 8449
  · rw [if_pos b6, if_pos b6]
    unfold F_Sc_writeData
    rw [← h.2.2.2.2.2.1.1]
    by_cases c : mu 1 6 = 0
    · rw [if_pos c, if_pos c]; exact rel_wait (rel_wb h)
    · rw [if_neg c, if_neg c]; exact h
  rw [if_neg b6, if_neg b6]
  by_cases b7 : k < 1024
  · rw [if_pos b7, if_pos b7]; exact rel_m7 h hv
  · rw [if_neg b7, if_neg b7]; exact h
