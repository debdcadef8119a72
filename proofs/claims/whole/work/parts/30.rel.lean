/-! the relation of the two stores -/
def bB (x : Int32) : Prop := 0 ≤ x.toInt ∧ x.toInt < 256
def bW (x : Int32) : Prop := 0 ≤ x.toInt ∧ x.toInt < 65536
def bF (x : Int32) : Prop := 0 ≤ x.toInt ∧ x.toInt < 64
def n0 (x : Int32) : Prop := 0 ≤ x.toInt
def RP (mu nu : Mu) : Prop := (mu 9 3 = nu 12 2 ∧ bB (mu 9 3)) ∧ (mu 9 4 = nu 12 3 ∧ bB (mu 9 4)) ∧ (mu 9 5 = nu 12 4 ∧ bW (mu 9 5)) ∧ (mu 9 6 = nu 12 5 ∧ bW (mu 9 6)) ∧ (mu 9 7 = nu 12 6 ∧ bW (mu 9 7)) ∧ mu 9 8 = nu 12 8 ∧ mu 9 9 = nu 12 9
def RF (mu nu : Mu) : Prop := mu 10 0 = nu 12 7 ∧ bF (mu 10 0)
def RM (mu nu : Mu) : Prop := ∀ k : Nat, k < 1024 → (mu 7 k = nu 13 k ∧ bB (mu 7 k)) ∧ (mu 8 k = nu 14 k ∧ bB (mu 8 k))
def RS (c i : Nat) (mu nu : Mu) : Prop := (mu c 1 = nu 15 i ∧ bB (mu c 1)) ∧ (mu c 2 = nu 16 i ∧ bB (mu c 2)) ∧ (mu c 3 = nu 17 i ∧ bB (mu c 3)) ∧ (mu c 4 = nu 18 i ∧ bB (mu c 4)) ∧ mu c 5 = nu 19 i ∧ mu c 6 = nu 20 i
def RC (mu nu : Mu) : Prop := mu 1 6 = nu 12 25 ∧ mu 1 7 = nu 12 26 ∧ mu 1 8 = nu 12 27 ∧ mu 1 9 = nu 12 28 ∧ mu 1 10 = nu 12 18 ∧ (mu 1 11 = nu 12 19 ∧ bB (mu 1 11)) ∧ mu 1 12 = nu 12 20 ∧ (mu 1 13 = nu 12 21 ∧ n0 (mu 1 13)) ∧ (mu 1 14 = nu 12 22 ∧ n0 (mu 1 14)) ∧ (mu 1 15 = nu 12 17 ∧ bB (mu 1 15)) ∧ (mu 1 6 = 0 → mu 1 5 = nu 12 16)
def RG (mu nu : Mu) : Prop := mu 1 3 = nu 12 24 ∧ mu 1 4 = nu 12 23 ∧ Jc mu ∧ (∀ k : Nat, (k : Int) < (mu 1 3).toInt → mu 2 (((mu 1 2).toInt.toNat + k) % 64) = nu 21 k ∧ bB (nu 21 k)) ∧ (∀ k : Nat, (k : Int) < (mu 1 4).toInt → mu 3 k = nu 22 k)
def RQ (mu nu : Mu) : Prop := mu 4 0 = 1 ∧ mu 5 0 = 0
def Rel (mu nu : Mu) : Prop := RP mu nu ∧ RF mu nu ∧ RM mu nu ∧ RS 4 0 mu nu ∧ RS 5 1 mu nu ∧ RC mu nu ∧ RG mu nu ∧ RQ mu nu
theorem rel_a {mu nu : Mu} {v : Int32} (h : Rel mu nu) (hv : bB v) : Rel (ps mu 9 3 v) (ps nu 12 2 v) := ⟨⟨⟨rfl, hv⟩, h.1.2.1, h.1.2.2.1, h.1.2.2.2.1, h.1.2.2.2.2.1, h.1.2.2.2.2.2.1, h.1.2.2.2.2.2.2⟩, h.2.1, h.2.2.1, h.2.2.2.1, h.2.2.2.2.1, h.2.2.2.2.2.1, h.2.2.2.2.2.2.1, h.2.2.2.2.2.2.2⟩
theorem rel_b {mu nu : Mu} {v : Int32} (h : Rel mu nu) (hv : bB v) : Rel (ps mu 9 4 v) (ps nu 12 3 v) := ⟨⟨h.1.1, ⟨rfl, hv⟩, h.1.2.2.1, h.1.2.2.2.1, h.1.2.2.2.2.1, h.1.2.2.2.2.2.1, h.1.2.2.2.2.2.2⟩, h.2.1, h.2.2.1, h.2.2.2.1, h.2.2.2.2.1, h.2.2.2.2.2.1, h.2.2.2.2.2.2.1, h.2.2.2.2.2.2.2⟩
theorem rel_x {mu nu : Mu} {v : Int32} (h : Rel mu nu) (hv : bW v) : Rel (ps mu 9 5 v) (ps nu 12 4 v) := ⟨⟨h.1.1, h.1.2.1, ⟨rfl, hv⟩, h.1.2.2.2.1, h.1.2.2.2.2.1, h.1.2.2.2.2.2.1, h.1.2.2.2.2.2.2⟩, h.2.1, h.2.2.1, h.2.2.2.1, h.2.2.2.2.1, h.2.2.2.2.2.1, h.2.2.2.2.2.2.1, h.2.2.2.2.2.2.2⟩
theorem rel_s {mu nu : Mu} {v : Int32} (h : Rel mu nu) (hv : bW v) : Rel (ps mu 9 6 v) (ps nu 12 5 v) := ⟨⟨h.1.1, h.1.2.1, h.1.2.2.1, ⟨rfl, hv⟩, h.1.2.2.2.2.1, h.1.2.2.2.2.2.1, h.1.2.2.2.2.2.2⟩, h.2.1, h.2.2.1, h.2.2.2.1, h.2.2.2.2.1, h.2.2.2.2.2.1, h.2.2.2.2.2.2.1, h.2.2.2.2.2.2.2⟩
theorem rel_p {mu nu : Mu} {v : Int32} (h : Rel mu nu) (hv : bW v) : Rel (ps mu 9 7 v) (ps nu 12 6 v) := ⟨⟨h.1.1, h.1.2.1, h.1.2.2.1, h.1.2.2.2.1, ⟨rfl, hv⟩, h.1.2.2.2.2.2.1, h.1.2.2.2.2.2.2⟩, h.2.1, h.2.2.1, h.2.2.2.1, h.2.2.2.2.1, h.2.2.2.2.2.1, h.2.2.2.2.2.2.1, h.2.2.2.2.2.2.2⟩
theorem rel_w {mu nu : Mu} {v : Int32} (h : Rel mu nu) : Rel (ps mu 9 8 v) (ps nu 12 8 v) := ⟨⟨h.1.1, h.1.2.1, h.1.2.2.1, h.1.2.2.2.1, h.1.2.2.2.2.1, rfl, h.1.2.2.2.2.2.2⟩, h.2.1, h.2.2.1, h.2.2.2.1, h.2.2.2.2.1, h.2.2.2.2.2.1, h.2.2.2.2.2.2.1, h.2.2.2.2.2.2.2⟩
theorem rel_t {mu nu : Mu} {v : Int32} (h : Rel mu nu) : Rel (ps mu 9 9 v) (ps nu 12 9 v) := ⟨⟨h.1.1, h.1.2.1, h.1.2.2.1, h.1.2.2.2.1, h.1.2.2.2.2.1, h.1.2.2.2.2.2.1, rfl⟩, h.2.1, h.2.2.1, h.2.2.2.1, h.2.2.2.2.1, h.2.2.2.2.2.1, h.2.2.2.2.2.2.1, h.2.2.2.2.2.2.2⟩
theorem rel_f {mu nu : Mu} {v : Int32} (h : Rel mu nu) (hv : bF v) : Rel (ps mu 10 0 v) (ps nu 12 7 v) := ⟨h.1, ⟨rfl, hv⟩, h.2.2.1, h.2.2.2.1, h.2.2.2.2.1, h.2.2.2.2.2.1, h.2.2.2.2.2.2.1, h.2.2.2.2.2.2.2⟩
theorem rel_full {mu nu : Mu} {v : Int32} (h : Rel mu nu) : Rel (ps mu 1 7 v) (ps nu 12 26 v) := ⟨h.1, h.2.1, h.2.2.1, h.2.2.2.1, h.2.2.2.2.1, ⟨h.2.2.2.2.2.1.1, rfl, h.2.2.2.2.2.1.2.2.1, h.2.2.2.2.2.1.2.2.2.1, h.2.2.2.2.2.1.2.2.2.2.1, h.2.2.2.2.2.1.2.2.2.2.2.1, h.2.2.2.2.2.1.2.2.2.2.2.2.1, h.2.2.2.2.2.1.2.2.2.2.2.2.2.1, h.2.2.2.2.2.1.2.2.2.2.2.2.2.2.1, h.2.2.2.2.2.1.2.2.2.2.2.2.2.2.2.1, h.2.2.2.2.2.1.2.2.2.2.2.2.2.2.2.2⟩, h.2.2.2.2.2.2.1, h.2.2.2.2.2.2.2⟩
theorem rel_over {mu nu : Mu} {v : Int32} (h : Rel mu nu) : Rel (ps mu 1 8 v) (ps nu 12 27 v) := ⟨h.1, h.2.1, h.2.2.1, h.2.2.2.1, h.2.2.2.2.1, ⟨h.2.2.2.2.2.1.1, h.2.2.2.2.2.1.2.1, rfl, h.2.2.2.2.2.1.2.2.2.1, h.2.2.2.2.2.1.2.2.2.2.1, h.2.2.2.2.2.1.2.2.2.2.2.1, h.2.2.2.2.2.1.2.2.2.2.2.2.1, h.2.2.2.2.2.1.2.2.2.2.2.2.2.1, h.2.2.2.2.2.1.2.2.2.2.2.2.2.2.1, h.2.2.2.2.2.1.2.2.2.2.2.2.2.2.2.1, h.2.2.2.2.2.1.2.2.2.2.2.2.2.2.2.2⟩, h.2.2.2.2.2.2.1, h.2.2.2.2.2.2.2⟩
theorem rel_wait {mu nu : Mu} {v : Int32} (h : Rel mu nu) : Rel (ps mu 1 9 v) (ps nu 12 28 v) := ⟨h.1, h.2.1, h.2.2.1, h.2.2.2.1, h.2.2.2.2.1, ⟨h.2.2.2.2.2.1.1, h.2.2.2.2.2.1.2.1, h.2.2.2.2.2.1.2.2.1, rfl, h.2.2.2.2.2.1.2.2.2.2.1, h.2.2.2.2.2.1.2.2.2.2.2.1, h.2.2.2.2.2.1.2.2.2.2.2.2.1, h.2.2.2.2.2.1.2.2.2.2.2.2.2.1, h.2.2.2.2.2.1.2.2.2.2.2.2.2.2.1, h.2.2.2.2.2.1.2.2.2.2.2.2.2.2.2.1, h.2.2.2.2.2.1.2.2.2.2.2.2.2.2.2.2⟩, h.2.2.2.2.2.2.1, h.2.2.2.2.2.2.2⟩
theorem rel_wb {mu nu : Mu} {v : Int32} (h : Rel mu nu) : Rel (ps mu 1 10 v) (ps nu 12 18 v) := ⟨h.1, h.2.1, h.2.2.1, h.2.2.2.1, h.2.2.2.2.1, ⟨h.2.2.2.2.2.1.1, h.2.2.2.2.2.1.2.1, h.2.2.2.2.2.1.2.2.1, h.2.2.2.2.2.1.2.2.2.1, rfl, h.2.2.2.2.2.1.2.2.2.2.2.1, h.2.2.2.2.2.1.2.2.2.2.2.2.1, h.2.2.2.2.2.1.2.2.2.2.2.2.2.1, h.2.2.2.2.2.1.2.2.2.2.2.2.2.2.1, h.2.2.2.2.2.1.2.2.2.2.2.2.2.2.2.1, h.2.2.2.2.2.1.2.2.2.2.2.2.2.2.2.2⟩, h.2.2.2.2.2.2.1, h.2.2.2.2.2.2.2⟩
theorem rel_bi {mu nu : Mu} {v : Int32} (h : Rel mu nu) (hv : bB v) : Rel (ps mu 1 11 v) (ps nu 12 19 v) := ⟨h.1, h.2.1, h.2.2.1, h.2.2.2.1, h.2.2.2.2.1, ⟨h.2.2.2.2.2.1.1, h.2.2.2.2.2.1.2.1, h.2.2.2.2.2.1.2.2.1, h.2.2.2.2.2.1.2.2.2.1, h.2.2.2.2.2.1.2.2.2.2.1, ⟨rfl, hv⟩, h.2.2.2.2.2.1.2.2.2.2.2.2.1, h.2.2.2.2.2.1.2.2.2.2.2.2.2.1, h.2.2.2.2.2.1.2.2.2.2.2.2.2.2.1, h.2.2.2.2.2.1.2.2.2.2.2.2.2.2.2.1, h.2.2.2.2.2.1.2.2.2.2.2.2.2.2.2.2⟩, h.2.2.2.2.2.2.1, h.2.2.2.2.2.2.2⟩
theorem rel_bo {mu nu : Mu} {v : Int32} (h : Rel mu nu) : Rel (ps mu 1 12 v) (ps nu 12 20 v) := ⟨h.1, h.2.1, h.2.2.1, h.2.2.2.1, h.2.2.2.2.1, ⟨h.2.2.2.2.2.1.1, h.2.2.2.2.2.1.2.1, h.2.2.2.2.2.1.2.2.1, h.2.2.2.2.2.1.2.2.2.1, h.2.2.2.2.2.1.2.2.2.2.1, h.2.2.2.2.2.1.2.2.2.2.2.1, rfl, h.2.2.2.2.2.1.2.2.2.2.2.2.2.1, h.2.2.2.2.2.1.2.2.2.2.2.2.2.2.1, h.2.2.2.2.2.1.2.2.2.2.2.2.2.2.2.1, h.2.2.2.2.2.1.2.2.2.2.2.2.2.2.2.2⟩, h.2.2.2.2.2.2.1, h.2.2.2.2.2.2.2⟩
theorem rel_si {mu nu : Mu} {v : Int32} (h : Rel mu nu) (hv : n0 v) : Rel (ps mu 1 13 v) (ps nu 12 21 v) := ⟨h.1, h.2.1, h.2.2.1, h.2.2.2.1, h.2.2.2.2.1, ⟨h.2.2.2.2.2.1.1, h.2.2.2.2.2.1.2.1, h.2.2.2.2.2.1.2.2.1, h.2.2.2.2.2.1.2.2.2.1, h.2.2.2.2.2.1.2.2.2.2.1, h.2.2.2.2.2.1.2.2.2.2.2.1, h.2.2.2.2.2.1.2.2.2.2.2.2.1, ⟨rfl, hv⟩, h.2.2.2.2.2.1.2.2.2.2.2.2.2.2.1, h.2.2.2.2.2.1.2.2.2.2.2.2.2.2.2.1, h.2.2.2.2.2.1.2.2.2.2.2.2.2.2.2.2⟩, h.2.2.2.2.2.2.1, h.2.2.2.2.2.2.2⟩
theorem rel_so {mu nu : Mu} {v : Int32} (h : Rel mu nu) (hv : n0 v) : Rel (ps mu 1 14 v) (ps nu 12 22 v) := ⟨h.1, h.2.1, h.2.2.1, h.2.2.2.1, h.2.2.2.2.1, ⟨h.2.2.2.2.2.1.1, h.2.2.2.2.2.1.2.1, h.2.2.2.2.2.1.2.2.1, h.2.2.2.2.2.1.2.2.2.1, h.2.2.2.2.2.1.2.2.2.2.1, h.2.2.2.2.2.1.2.2.2.2.2.1, h.2.2.2.2.2.1.2.2.2.2.2.2.1, h.2.2.2.2.2.1.2.2.2.2.2.2.2.1, ⟨rfl, hv⟩, h.2.2.2.2.2.1.2.2.2.2.2.2.2.2.2.1, h.2.2.2.2.2.1.2.2.2.2.2.2.2.2.2.2⟩, h.2.2.2.2.2.2.1, h.2.2.2.2.2.2.2⟩
theorem rel_last {mu nu : Mu} {v : Int32} (h : Rel mu nu) (hv : bB v) : Rel (ps mu 1 15 v) (ps nu 12 17 v) := ⟨h.1, h.2.1, h.2.2.1, h.2.2.2.1, h.2.2.2.2.1, ⟨h.2.2.2.2.2.1.1, h.2.2.2.2.2.1.2.1, h.2.2.2.2.2.1.2.2.1, h.2.2.2.2.2.1.2.2.2.1, h.2.2.2.2.2.1.2.2.2.2.1, h.2.2.2.2.2.1.2.2.2.2.2.1, h.2.2.2.2.2.1.2.2.2.2.2.2.1, h.2.2.2.2.2.1.2.2.2.2.2.2.2.1, h.2.2.2.2.2.1.2.2.2.2.2.2.2.2.1, ⟨rfl, hv⟩, h.2.2.2.2.2.1.2.2.2.2.2.2.2.2.2.2⟩, h.2.2.2.2.2.2.1, h.2.2.2.2.2.2.2⟩
theorem rel_sctl {mu nu : Mu} {v : Int32} (h : Rel mu nu) : Rel (ps mu 1 5 v) (ps nu 12 16 v) := ⟨h.1, h.2.1, h.2.2.1, h.2.2.2.1, h.2.2.2.2.1, ⟨h.2.2.2.2.2.1.1, h.2.2.2.2.2.1.2.1, h.2.2.2.2.2.1.2.2.1, h.2.2.2.2.2.1.2.2.2.1, h.2.2.2.2.2.1.2.2.2.2.1, h.2.2.2.2.2.1.2.2.2.2.2.1, h.2.2.2.2.2.1.2.2.2.2.2.2.1, h.2.2.2.2.2.1.2.2.2.2.2.2.2.1, h.2.2.2.2.2.1.2.2.2.2.2.2.2.2.1, h.2.2.2.2.2.1.2.2.2.2.2.2.2.2.2.1, fun _ => rfl⟩, h.2.2.2.2.2.2.1, h.2.2.2.2.2.2.2⟩
theorem rel_out0 {mu nu : Mu} {v : Int32} (h : Rel mu nu) (hv : bB v) : Rel (ps mu 4 1 v) (ps nu 15 0 v) := ⟨h.1, h.2.1, h.2.2.1, ⟨⟨rfl, hv⟩, h.2.2.2.1.2.1, h.2.2.2.1.2.2.1, h.2.2.2.1.2.2.2.1, h.2.2.2.1.2.2.2.2.1, h.2.2.2.1.2.2.2.2.2⟩, h.2.2.2.2.1, h.2.2.2.2.2.1, h.2.2.2.2.2.2.1, h.2.2.2.2.2.2.2⟩
theorem rel_dir0 {mu nu : Mu} {v : Int32} (h : Rel mu nu) (hv : bB v) : Rel (ps mu 4 2 v) (ps nu 16 0 v) := ⟨h.1, h.2.1, h.2.2.1, ⟨h.2.2.2.1.1, ⟨rfl, hv⟩, h.2.2.2.1.2.2.1, h.2.2.2.1.2.2.2.1, h.2.2.2.1.2.2.2.2.1, h.2.2.2.1.2.2.2.2.2⟩, h.2.2.2.2.1, h.2.2.2.2.2.1, h.2.2.2.2.2.2.1, h.2.2.2.2.2.2.2⟩
theorem rel_ctl0 {mu nu : Mu} {v : Int32} (h : Rel mu nu) (hv : bB v) : Rel (ps mu 4 3 v) (ps nu 17 0 v) := ⟨h.1, h.2.1, h.2.2.1, ⟨h.2.2.2.1.1, h.2.2.2.1.2.1, ⟨rfl, hv⟩, h.2.2.2.1.2.2.2.1, h.2.2.2.1.2.2.2.2.1, h.2.2.2.1.2.2.2.2.2⟩, h.2.2.2.2.1, h.2.2.2.2.2.1, h.2.2.2.2.2.2.1, h.2.2.2.2.2.2.2⟩
theorem rel_inp0 {mu nu : Mu} {v : Int32} (h : Rel mu nu) (hv : bB v) : Rel (ps mu 4 4 v) (ps nu 18 0 v) := ⟨h.1, h.2.1, h.2.2.1, ⟨h.2.2.2.1.1, h.2.2.2.1.2.1, h.2.2.2.1.2.2.1, ⟨rfl, hv⟩, h.2.2.2.1.2.2.2.2.1, h.2.2.2.1.2.2.2.2.2⟩, h.2.2.2.2.1, h.2.2.2.2.2.1, h.2.2.2.2.2.2.1, h.2.2.2.2.2.2.2⟩
theorem rel_l10 {mu nu : Mu} {v : Int32} (h : Rel mu nu) : Rel (ps mu 4 5 v) (ps nu 19 0 v) := ⟨h.1, h.2.1, h.2.2.1, ⟨h.2.2.2.1.1, h.2.2.2.1.2.1, h.2.2.2.1.2.2.1, h.2.2.2.1.2.2.2.1, rfl, h.2.2.2.1.2.2.2.2.2⟩, h.2.2.2.2.1, h.2.2.2.2.2.1, h.2.2.2.2.2.2.1, h.2.2.2.2.2.2.2⟩
theorem rel_l20 {mu nu : Mu} {v : Int32} (h : Rel mu nu) : Rel (ps mu 4 6 v) (ps nu 20 0 v) := ⟨h.1, h.2.1, h.2.2.1, ⟨h.2.2.2.1.1, h.2.2.2.1.2.1, h.2.2.2.1.2.2.1, h.2.2.2.1.2.2.2.1, h.2.2.2.1.2.2.2.2.1, rfl⟩, h.2.2.2.2.1, h.2.2.2.2.2.1, h.2.2.2.2.2.2.1, h.2.2.2.2.2.2.2⟩
theorem rel_out1 {mu nu : Mu} {v : Int32} (h : Rel mu nu) (hv : bB v) : Rel (ps mu 5 1 v) (ps nu 15 1 v) := ⟨h.1, h.2.1, h.2.2.1, h.2.2.2.1, ⟨⟨rfl, hv⟩, h.2.2.2.2.1.2.1, h.2.2.2.2.1.2.2.1, h.2.2.2.2.1.2.2.2.1, h.2.2.2.2.1.2.2.2.2.1, h.2.2.2.2.1.2.2.2.2.2⟩, h.2.2.2.2.2.1, h.2.2.2.2.2.2.1, h.2.2.2.2.2.2.2⟩
theorem rel_dir1 {mu nu : Mu} {v : Int32} (h : Rel mu nu) (hv : bB v) : Rel (ps mu 5 2 v) (ps nu 16 1 v) := ⟨h.1, h.2.1, h.2.2.1, h.2.2.2.1, ⟨h.2.2.2.2.1.1, ⟨rfl, hv⟩, h.2.2.2.2.1.2.2.1, h.2.2.2.2.1.2.2.2.1, h.2.2.2.2.1.2.2.2.2.1, h.2.2.2.2.1.2.2.2.2.2⟩, h.2.2.2.2.2.1, h.2.2.2.2.2.2.1, h.2.2.2.2.2.2.2⟩
theorem rel_ctl1 {mu nu : Mu} {v : Int32} (h : Rel mu nu) (hv : bB v) : Rel (ps mu 5 3 v) (ps nu 17 1 v) := ⟨h.1, h.2.1, h.2.2.1, h.2.2.2.1, ⟨h.2.2.2.2.1.1, h.2.2.2.2.1.2.1, ⟨rfl, hv⟩, h.2.2.2.2.1.2.2.2.1, h.2.2.2.2.1.2.2.2.2.1, h.2.2.2.2.1.2.2.2.2.2⟩, h.2.2.2.2.2.1, h.2.2.2.2.2.2.1, h.2.2.2.2.2.2.2⟩
theorem rel_inp1 {mu nu : Mu} {v : Int32} (h : Rel mu nu) (hv : bB v) : Rel (ps mu 5 4 v) (ps nu 18 1 v) := ⟨h.1, h.2.1, h.2.2.1, h.2.2.2.1, ⟨h.2.2.2.2.1.1, h.2.2.2.2.1.2.1, h.2.2.2.2.1.2.2.1, ⟨rfl, hv⟩, h.2.2.2.2.1.2.2.2.2.1, h.2.2.2.2.1.2.2.2.2.2⟩, h.2.2.2.2.2.1, h.2.2.2.2.2.2.1, h.2.2.2.2.2.2.2⟩
theorem rel_l11 {mu nu : Mu} {v : Int32} (h : Rel mu nu) : Rel (ps mu 5 5 v) (ps nu 19 1 v) := ⟨h.1, h.2.1, h.2.2.1, h.2.2.2.1, ⟨h.2.2.2.2.1.1, h.2.2.2.2.1.2.1, h.2.2.2.2.1.2.2.1, h.2.2.2.2.1.2.2.2.1, rfl, h.2.2.2.2.1.2.2.2.2.2⟩, h.2.2.2.2.2.1, h.2.2.2.2.2.2.1, h.2.2.2.2.2.2.2⟩
theorem rel_l21 {mu nu : Mu} {v : Int32} (h : Rel mu nu) : Rel (ps mu 5 6 v) (ps nu 20 1 v) := ⟨h.1, h.2.1, h.2.2.1, h.2.2.2.1, ⟨h.2.2.2.2.1.1, h.2.2.2.2.1.2.1, h.2.2.2.2.1.2.2.1, h.2.2.2.2.1.2.2.2.1, h.2.2.2.2.1.2.2.2.2.1, rfl⟩, h.2.2.2.2.2.1, h.2.2.2.2.2.2.1, h.2.2.2.2.2.2.2⟩
theorem rel_m7 {mu nu : Mu} {v : Int32} {k : Nat} (h : Rel mu nu) (hv : bB v) : Rel (ps mu 7 k v) (ps nu 13 k v) := by
  refine ⟨h.1, h.2.1, ?_, h.2.2.2.1, h.2.2.2.2.1, h.2.2.2.2.2.1, h.2.2.2.2.2.2.1, h.2.2.2.2.2.2.2⟩
  intro j hj
  refine ⟨?_, (h.2.2.1 j hj).2⟩
  show (upd (mu 7) k v j = upd (nu 13) k v j ∧ bB (upd (mu 7) k v j))
  by_cases e : j = k
  · subst e; rw [pk_us, pk_us]; exact ⟨rfl, hv⟩
  · rw [pk_un e, pk_un e]; exact (h.2.2.1 j hj).1
theorem rel_m8 {mu nu : Mu} {v : Int32} {k : Nat} (h : Rel mu nu) (hv : bB v) : Rel (ps mu 8 k v) (ps nu 14 k v) := by
  refine ⟨h.1, h.2.1, ?_, h.2.2.2.1, h.2.2.2.2.1, h.2.2.2.2.2.1, h.2.2.2.2.2.2.1, h.2.2.2.2.2.2.2⟩
  intro j hj
  refine ⟨(h.2.2.1 j hj).1, ?_⟩
  show (upd (mu 8) k v j = upd (nu 14) k v j ∧ bB (upd (mu 8) k v j))
  by_cases e : j = k
  · subst e; rw [pk_us, pk_us]; exact ⟨rfl, hv⟩
  · rw [pk_un e, pk_un e]; exact (h.2.2.1 j hj).2
/-! writes and reads of a store -/
theorem ps_ps (mu : Mu) (r k : Nat) (u v : Int32) : ps (ps mu r k u) r k v = ps mu r k v := by
  funext i j; unfold ps va_up upd
  by_cases e : i = r <;> by_cases f : j = k <;> simp [e, f]
theorem ps_self (mu : Mu) (r k : Nat) (v : Int32) : ps mu r k v r k = v := by simp [ps, va_up, upd]
/-! numbers -/
theorem bB_of {x : Int32} (h : bB x) : ∃ j : Nat, j < 256 ∧ x = nI j := by
  obtain ⟨j, hj, rfl⟩ := nI_of (x := x) (by rw [i_lt]; have : (0 : Int32).toInt = 0 := (by decide); have := h.1; omega)
  refine ⟨j, ?_, rfl⟩
  have := h.2; rw [nI_toInt hj] at this; omega
theorem bW_of {x : Int32} (h : bW x) : ∃ j : Nat, j < 65536 ∧ x = nI j := by
  obtain ⟨j, hj, rfl⟩ := nI_of (x := x) (by rw [i_lt]; have : (0 : Int32).toInt = 0 := (by decide); have := h.1; omega)
  refine ⟨j, ?_, rfl⟩
  have := h.2; rw [nI_toInt hj] at this; omega
theorem bF_of {x : Int32} (h : bF x) : ∃ j : Nat, j < 64 ∧ x = nI j := by
  obtain ⟨j, hj, rfl⟩ := nI_of (x := x) (by rw [i_lt]; have : (0 : Int32).toInt = 0 := (by decide); have := h.1; omega)
  refine ⟨j, ?_, rfl⟩
  have := h.2; rw [nI_toInt hj] at this; omega
theorem bB_nI {j : Nat} (h : j < 256) : bB (nI j) := by unfold bB; rw [nI_toInt (by omega)]; omega
theorem bW_nI {j : Nat} (h : j < 65536) : bW (nI j) := by unfold bW; rw [nI_toInt (by omega)]; omega
theorem bF_nI {j : Nat} (h : j < 64) : bF (nI j) := by unfold bF; rw [nI_toInt (by omega)]; omega
theorem bB_and (x : Int32) : bB (x &&& 255) := i_and8 x
theorem bW_and (x : Int32) : bW (x &&& 65535) := i_and16 x
theorem bF_and (x : Int32) : bF (x &&& 63) := i_andk x 6 (by decide) (by decide)
