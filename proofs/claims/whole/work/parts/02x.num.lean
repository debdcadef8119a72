/-! numbers of the machine: small rows of my own -/
theorem i_lt {a b : Int32} : a < b ↔ a.toInt < b.toInt := Int32.lt_iff_toInt_lt
theorem i_le {a b : Int32} : a ≤ b ↔ a.toInt ≤ b.toInt := Int32.le_iff_toInt_le
theorem i_bm {x : Int} (h1 : -2147483648 ≤ x) (h2 : x < 2147483648) : x.bmod (2 ^ 32) = x := by
  rw [Int.bmod_def]; split <;> omega
theorem i_rng (a : Int32) : -2147483648 ≤ a.toInt ∧ a.toInt < 2147483648 := by
  have h1 := Int32.le_toInt a
  have h2 := Int32.toInt_lt a
  exact ⟨by simpa using h1, by simpa using h2⟩
theorem i_add {a b : Int32} (h1 : -2147483648 ≤ a.toInt + b.toInt) (h2 : a.toInt + b.toInt < 2147483648) : (a + b).toInt = a.toInt + b.toInt := by
  rw [Int32.toInt_add]; exact i_bm h1 h2
theorem i_sub {a b : Int32} (h1 : -2147483648 ≤ a.toInt - b.toInt) (h2 : a.toInt - b.toInt < 2147483648) : (a - b).toInt = a.toInt - b.toInt := by
  rw [Int32.toInt_sub]; exact i_bm h1 h2
theorem i_inj {a b : Int32} (h : a.toInt = b.toInt) : a = b := Int32.toInt_inj.mp h
theorem lp_init (b : Int32) : b.toInt - (0 : Int32).toInt < ((b.toNatClampNeg + 1 : Nat) : Int) ∧ 0 < b.toNatClampNeg + 1 := by
  refine ⟨?_, Nat.succ_pos _⟩
  have h0 : (0 : Int32).toInt = 0 := by decide
  have h1 : b.toNatClampNeg = b.toInt.toNat := rfl
  rw [h0, h1]; omega
theorem lp_dec {b i : Int32} {n : Nat} (h : ¬ b ≤ i) (hm : b.toInt - i.toInt < ((n + 1 : Nat) : Int) ∧ 0 < n + 1) : b.toInt - (i + 1).toInt < (n : Int) ∧ 0 < n := by
  rw [i_le] at h
  have h0 : (1 : Int32).toInt = 1 := by decide
  have hr := i_rng b
  have hi := i_rng i
  have h1 : (i + 1).toInt = i.toInt + 1 := by rw [i_add (by omega) (by omega), h0]
  obtain ⟨h2, h3⟩ := hm
  rw [h1]; omega
theorem vin {x c : Int32} {n : Nat} (hc : c.toInt = n) (h0 : ¬ x < 0) (h1 : ¬ c ≤ x) : vp_in x n := by
  rw [vp_in_iff]; rw [i_lt] at h0; rw [i_le] at h1
  have : (0 : Int32).toInt = 0 := by decide
  omega
theorem vin_s {x c d : Int32} {n : Nat} {k : Int} (hc : c.toInt = k) (hd : d.toInt = k + n) (hk : 0 ≤ k) (h0 : ¬ x < c) (h1 : ¬ d ≤ x) : vp_in (x - c) n := by
  rw [vp_in_iff]; rw [i_lt] at h0; rw [i_le] at h1
  have hx := i_rng x
  have hdr := i_rng d
  rw [i_sub (by omega) (by omega)]
  omega
theorem i_andk (x : Int32) {m : Int32} (k : Nat) (hm : m.toBitVec.toNat = 2 ^ k - 1) (hk : k ≤ 30) : 0 ≤ (x &&& m).toInt ∧ (x &&& m).toInt < 2 ^ k := by
  have h := vp_in_iff.mp (pk_andIn x k hm hk)
  refine ⟨h.1, ?_⟩
  have := h.2
  rw [Int.natCast_pow] at this
  exact this
theorem i_and16 (x : Int32) : 0 ≤ (x &&& 65535).toInt ∧ (x &&& 65535).toInt < 65536 := i_andk x 16 (by decide) (by decide)
theorem i_and8 (x : Int32) : 0 ≤ (x &&& 255).toInt ∧ (x &&& 255).toInt < 256 := i_andk x 8 (by decide) (by decide)
theorem i_and1 (x : Int32) : x &&& 1 = 0 ∨ x &&& 1 = 1 := by
  obtain ⟨j, hj, h⟩ := pk_andE x (m := 1) 1 (by decide)
  rw [h]
  rcases (show j = 0 ∨ j = 1 by omega) with rfl | rfl
  · exact Or.inl rfl
  · exact Or.inr rfl
theorem v_side {x : Int32} (h : x = 0 ∨ x = 1) : vp_in x 2 := by rcases h with rfl | rfl <;> (rw [vp_in_iff]; decide)
theorem vin_i {x : Int32} {n : Nat} (h0 : 0 ≤ x.toInt) (h1 : x.toInt < n) : vp_in x n := vp_in_iff.mpr ⟨h0, h1⟩
/-- the index of the ring: its rest by 64 -/
theorem i_rem64 {x : Int32} (h0 : 0 ≤ x.toInt) : vp_in (x - x / 64 * 64) 64 ∧ (x - x / 64 * 64).toInt = x.toInt % 64 := by
  have hr := i_rng x
  obtain ⟨j, hj, rfl⟩ := nI_of (x := x) (by rw [i_lt]; have : (0 : Int32).toInt = 0 := (by decide); omega)
  have h := pk_rem (a := j) (d := 64) hj (by decide) (by decide)
  have h64 : nI 64 = (64 : Int32) := rfl
  rw [h64] at h
  rw [h]
  have h2 : (nI (j % 64)).toInt = ((j % 64 : Nat) : Int) := nI_toInt (by omega)
  refine ⟨vp_in_nI (Nat.mod_lt _ (by decide)) (by decide), ?_⟩
  rw [h2, nI_toInt hj]; omega
/-- what the class's and the reference's rows need of their stores -/
def Jc (mu : Mu) : Prop := (0 ≤ (mu 1 2).toInt ∧ (mu 1 2).toInt < 64) ∧ (0 ≤ (mu 1 3).toInt ∧ (mu 1 3).toInt ≤ 64) ∧ (0 ≤ (mu 1 4).toInt ∧ (mu 1 4).toInt ≤ 256)
def Jm (mu : Mu) : Prop := (0 ≤ (mu 12 24).toInt ∧ (mu 12 24).toInt ≤ 64) ∧ (0 ≤ (mu 12 23).toInt ∧ (mu 12 23).toInt ≤ 256)
def isM (y : Int32) : Prop := (0 ≤ y.toInt ∧ y.toInt < 1024) ∨ (64512 ≤ y.toInt ∧ y.toInt < 65536)
theorem isM_lo {y : Int32} (h : isM y) (h1 : ¬ 1024 ≤ y) : vp_in y 1024 := by
  rw [i_le] at h1; have : (1024 : Int32).toInt = 1024 := by decide
  refine vin_i ?_ ?_ <;> (unfold isM at h; omega)
theorem isM_hi {y : Int32} (h : isM y) (h1 : 1024 ≤ y) : vp_in (y - 64512) 1024 := by
  rw [i_le] at h1; have : (1024 : Int32).toInt = 1024 := by decide
  have h2 : (64512 : Int32).toInt = 64512 := by decide
  unfold isM at h
  have h3 : (y - 64512).toInt = y.toInt - 64512 := by rw [i_sub (by omega) (by omega), h2]
  refine vin_i ?_ ?_ <;> (rw [h3]; omega)
theorem lo_in {y : Int32} (hy : 0 ≤ y.toInt) (h : ¬ 1024 ≤ y) : vp_in y 1024 := by
  rw [i_le] at h; have : (1024 : Int32).toInt = 1024 := by decide
  exact vin_i hy (by omega)
theorem hi_in {y : Int32} (hy : y.toInt < 65536) (h : ¬ y < 64512) : vp_in (y - 64512) 1024 := by
  rw [i_lt] at h; have h2 : (64512 : Int32).toInt = 64512 := by decide
  have h3 : (y - 64512).toInt = y.toInt - 64512 := by rw [i_sub (by omega) (by omega), h2]
  refine vin_i ?_ ?_ <;> (rw [h3]; omega)
theorem vin_ne {x c : Int32} {n : Nat} (hc : c.toInt = n) (h0 : 0 ≤ x.toInt) (h1 : x.toInt ≤ n) (h : ¬ x = c) : vp_in x n := by
  have h2 : x.toInt ≠ n := fun q => h (i_inj (by rw [hc]; exact q))
  exact vin_i h0 (by omega)
theorem vin_lt2 {x b : Int32} {n : Nat} (h0 : ¬ x < 0) (h : x < b) (hb : b.toInt ≤ n) : vp_in x n := by
  rw [i_lt] at h0 h; have : (0 : Int32).toInt = 0 := by decide
  exact vin_i (by omega) (by omega)
theorem vin_nle {x b : Int32} {n : Nat} (h0 : ¬ x < 0) (h : ¬ b ≤ x) (hb : b.toInt ≤ n) : vp_in x n := by
  rw [i_lt] at h0; rw [i_le] at h; have : (0 : Int32).toInt = 0 := by decide
  exact vin_i (by omega) (by omega)
theorem vin_nge {b x : Int32} {n : Nat} (hb : b.toInt = n) (h0 : 0 ≤ x.toInt) (h : ¬ b ≤ x) : vp_in x n := by
  rw [i_le] at h; exact vin_i h0 (by omega)
theorem tk_in {mu : Mu} (hJ : Jc mu) : vp_in ((mu 1 2 + mu 1 3) - (mu 1 2 + mu 1 3) / 64 * 64) 64 := by
  obtain ⟨⟨a1, a2⟩, ⟨b1, b2⟩, _⟩ := hJ
  exact (i_rem64 (by rw [i_add (by omega) (by omega)]; omega)).1
theorem co_in {mu : Mu} (hJ : Jm mu) (h : ¬ mu 12 24 ≤ 0) : 0 ≤ (0 : Int32).toInt ∧ (mu 12 24 - 1).toInt ≤ 63 := by
  obtain ⟨⟨a1, a2⟩, _⟩ := hJ
  have h1 : (1 : Int32).toInt = 1 := by decide
  refine ⟨by decide, ?_⟩
  rw [i_sub (by omega) (by omega), h1]; omega
theorem co_st {b x : Int32} (h : ¬ b ≤ x) (hI : 0 ≤ x.toInt ∧ b.toInt ≤ 63) : 0 ≤ (x + 1).toInt ∧ b.toInt ≤ 63 := by
  rw [i_le] at h; have h1 : (1 : Int32).toInt = 1 := by decide
  refine ⟨?_, hI.2⟩
  rw [i_add (by omega) (by omega), h1]; omega
theorem co_a {b x : Int32} (h : ¬ b ≤ x) (hI : 0 ≤ x.toInt ∧ b.toInt ≤ 63) : vp_in x 64 := by
  rw [i_le] at h; exact vin_i hI.1 (by omega)
theorem co_b {b x : Int32} (h : ¬ b ≤ x) (hI : 0 ≤ x.toInt ∧ b.toInt ≤ 63) : vp_in (x + 1) 64 := by
  rw [i_le] at h; have h1 : (1 : Int32).toInt = 1 := by decide
  have h2 : (x + 1).toInt = x.toInt + 1 := by rw [i_add (by omega) (by omega), h1]
  exact vin_i (by omega) (by omega)
