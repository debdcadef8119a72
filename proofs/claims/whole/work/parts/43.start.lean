/-! the start -/
def mu0 : Mu := ps (ps (ps (fun _ _ => 0) 1 5 3) 1 6 1) 4 0 1
def nu0 : Mu := ps (fun _ _ => 0) 12 25 1
theorem b0 : bB 0 := by unfold bB; decide
theorem w0_ : bW 0 := by unfold bW; decide
theorem f0_ : bF 0 := by unfold bF; decide
theorem n0_ : n0 0 := by unfold n0; decide
theorem rel0 : Rel mu0 nu0 := by
  have j0 : (mu0 1 3).toInt = 0 := by decide
  have j4 : (mu0 1 4).toInt = 0 := by decide
  refine ⟨⟨⟨rfl, b0⟩, ⟨rfl, b0⟩, ⟨rfl, w0_⟩, ⟨rfl, w0_⟩, ⟨rfl, w0_⟩, rfl, rfl⟩, ⟨rfl, f0_⟩, fun k _ => ⟨⟨rfl, b0⟩, ⟨rfl, b0⟩⟩, ⟨⟨rfl, b0⟩, ⟨rfl, b0⟩, ⟨rfl, b0⟩, ⟨rfl, b0⟩, rfl, rfl⟩, ⟨⟨rfl, b0⟩, ⟨rfl, b0⟩, ⟨rfl, b0⟩, ⟨rfl, b0⟩, rfl, rfl⟩, ⟨rfl, rfl, rfl, rfl, rfl, ⟨rfl, b0⟩, rfl, ⟨rfl, n0_⟩, ⟨rfl, n0_⟩, ⟨rfl, b0⟩, fun q => absurd q (by decide)⟩, ⟨rfl, rfl, by unfold Jc; decide, fun k hk => ?_, fun k hk => ?_⟩, ⟨rfl, rfl⟩⟩
  · rw [j0] at hk; omega
  · rw [j4] at hk; omega
set_option maxRecDepth 100000 in
set_option maxHeartbeats 4000000 in
/-- the table of the legal bytes, as the Statement gives it -/
theorem law_table {s : State} {b : Nat} (hts0 : ∀ w ∈ lw_tbl, w.before #[Value.ref b] s = true) (hgv : (Jvm.Cond.and given_1 narrow_1).before #[Value.ref b] s = true) : ∃ tb : Nat, Sx (fun q : Nat => s.heap.size ≤ q) tb s s.heap := by
  have hs := flat_of_before _ hgv
  have hA : ∀ a : Nat, a < s.heap.size → ¬ (fun q : Nat => s.heap.size ≤ q) a := fun a h => Nat.not_le.mpr h
  have hel : ∀ j : Nat, j < 16 → (Term.elem (.static "KitMachine$Processor" "LEGAL" "[I") (.int (Int32.ofNat j))).eval #[Value.ref b] s none [] s = some (.int (tab_LEGAL j)) := by
    intro j hj
    match j, hj with
    | 0, _ => exact va_eqt (hs _ (by decide +kernel))
    | 1, _ => exact va_eqt (hs _ (by decide +kernel))
    | 2, _ => exact va_eqt (hs _ (by decide +kernel))
    | 3, _ => exact va_eqt (hs _ (by decide +kernel))
    | 4, _ => exact va_eqt (hs _ (by decide +kernel))
    | 5, _ => exact va_eqt (hs _ (by decide +kernel))
    | 6, _ => exact va_eqt (hs _ (by decide +kernel))
    | 7, _ => exact va_eqt (hs _ (by decide +kernel))
    | 8, _ => exact va_eqt (hs _ (by decide +kernel))
    | 9, _ => exact va_eqt (hs _ (by decide +kernel))
    | 10, _ => exact va_eqt (hs _ (by decide +kernel))
    | 11, _ => exact va_eqt (hs _ (by decide +kernel))
    | 12, _ => exact va_eqt (hs _ (by decide +kernel))
    | 13, _ => exact va_eqt (hs _ (by decide +kernel))
    | 14, _ => exact va_eqt (hs _ (by decide +kernel))
    | 15, _ => exact va_eqt (hs _ (by decide +kernel))
    | j + 16, hj => exact absurd hj (by omega)
  obtain ⟨t, ht, hT⟩ := va_Tof (ty := .int) (N := 16) (f := fun j => .int (tab_LEGAL j)) (by decide) (hs (.arrayOf (.static "KitMachine$Processor" "LEGAL" "[I") .int) (by decide +kernel)) (va_eqt (hs _ (by decide +kernel))) hel hA
  exact ⟨t, va_Zref (hts0 _ (List.mem_of_getElem? (i := 467) rfl)) (hts0 _ (List.mem_of_getElem? (i := 92) rfl)) ht hA, hT⟩
set_option maxHeartbeats 8000000 in
set_option maxRecDepth 100000 in
/-- THE LAW, from its entry -/
theorem whole_start {p : Program} {e : Env} {s : State} {m : MethodId} {below : List Frame} {meth : Method} {c : Code} (l : Launch) {b L : Nat} {xs : Nat → Int32} (hL : L ≤ 2048) (C0 : lw_At p s m meth c b L xs) : W p l e room_1 s m #[Value.ref b] below meth c s.heap [] 0 0 (lw_Z below #[Value.ref b] s) (entryFrame m ([Value.ref b] : List Value).toArray 4) := by
  obtain ⟨hx, hb, hr, hml, hown, hts0, hX, hbl, hlocks, hgv⟩ := id C0
  have hown : s.vm.findClass RL = some m.cls := hown
  have hts : ∀ w ∈ wsL_law, w.before #[Value.ref b] s = true := fun w h => hts0 w (wsL_law_in w h)
  have hA : ∀ q : Nat, s.heap.size ≤ q → (fun q : Nat => s.heap.size ≤ q) q := fun _ h => h
  have hNw : va_Nw (.methodLinkNest RX3 15 yX2_init "KitMachine") s := va_Nw.of rfl (hts0 _ (List.mem_of_getElem? (i := 230) rfl))
  obtain ⟨tb, hSx⟩ := law_table hts0 hgv
  obtain ⟨c0, iS0, hKn0⟩ := u_known (C := RX0) (T := TX0) (N := 1) (n := 1) hts0 inX0 (hts0 _ (List.mem_of_getElem? (i := 241) rfl))
  obtain ⟨c1, iS1, hKn1⟩ := u_known (C := RX1) (T := TX1) (N := 5) (n := 5) hts0 inX1 (hts0 _ (List.mem_of_getElem? (i := 201) rfl))
  obtain ⟨c2, iS2, hKn2⟩ := u_known (C := RX2) (T := TX2) (N := 1) (n := 1) hts0 inX2 (hts0 _ (List.mem_of_getElem? (i := 229) rfl))
  obtain ⟨c3, iS3, hKn3⟩ := u_known (C := RX3) (T := TX3) (N := 10) (n := 10) hts0 inX3 (hts0 _ (List.mem_of_getElem? (i := 223) rfl))
  obtain ⟨c4, iS4, hKn4⟩ := u_known (C := RX4) (T := TX4) (N := 16) (n := 16) hts0 inX4 (hts0 _ (List.mem_of_getElem? (i := 105) rfl))
  obtain ⟨c5, iS5, hKn5⟩ := u_known (C := RX5) (T := TX5) (N := 7) (n := 7) hts0 inX5 (hts0 _ (List.mem_of_getElem? (i := 166) rfl))
  obtain ⟨c6, iS6, hKn6⟩ := u_known (C := RX6) (T := TX6) (N := 5) (n := 5) hts0 inX6 (hts0 _ (List.mem_of_getElem? (i := 97) rfl))
  obtain ⟨c7, iS7, hKn7⟩ := u_known (C := RX7) (T := TX7) (N := 31) (n := 31) hts0 inX7 (hts0 _ (List.mem_of_getElem? (i := 678) rfl))
  obtain ⟨D, hKc⟩ : ∃ D : va_G, ∀ (k : Nat) (q : vw_C), vwCl[k]? = some q → u_Kn s q.1 q.2.1 q.2.2 (D.1 k) (D.2 k) := by
    refine ⟨(fun k => match k with | 0 => c0 | 1 => c1 | 2 => c2 | 3 => c3 | 4 => c4 | 5 => c5 | 6 => c6 | _ => c7, fun k => match k with | 0 => iS0 | 1 => iS1 | 2 => iS2 | 3 => iS3 | 4 => iS4 | 5 => iS5 | 6 => iS6 | _ => iS7), ?_⟩
    intro k q hq
    match k, hq with
    | 0, hq => cases hq; exact hKn0
    | 1, hq => cases hq; exact hKn1
    | 2, hq => cases hq; exact hKn2
    | 3, hq => cases hq; exact hKn3
    | 4, hq => cases hq; exact hKn4
    | 5, hq => cases hq; exact hKn5
    | 6, hq => cases hq; exact hKn6
    | 7, hq => cases hq; exact hKn7
    | k + 8, hq => simp [vwCl] at hq
  have hS : va_S (fun q : Nat => s.heap.size ≤ q) s.heap s.heap [] := va_S.rf
  have hK : va_K D vwCl [] s := ⟨hKc, fun k q h => by simp at h⟩
  have hP : va_P D vwCl [] s.heap := fun k q h => by simp at h
  have hD : va_D (fun q : Nat => s.heap.size ≤ q) [] := ⟨fun i j p q h => by simp at h, fun k q h => by simp at h⟩
  have hl := lv_entry ([.ref b]) (n := 4) (Nat.le_of_ble_eq_true rfl)
  rw [lg_entry_eq]
  generalize (lg_sl ([.ref b]) ++ List.replicate (4 - (lg_sl ([.ref b])).length) Slot.unset).toArray = ls at hl ⊢
  have hl : lv_has ls 4 [(0, .ref b)] := hl
  refine va_new (ci := 6) (fs := [.null, .null, .null, .null, .null]) (C := RX6) (T := TX6) (N := 5) hx hb hts0 inX6 tyX6 tyX6_ok hown (hts0 _ (List.mem_of_getElem? (i := 96) rfl)) (hts0 _ (List.mem_of_getElem? (i := 97) rfl)) (hts0 _ (List.mem_of_getElem? (i := 88) rfl)) hK hP hD hS hA rfl (fun j hj => by rcases (show j = 0 ∨ j = 1 ∨ j = 2 ∨ j = 3 ∨ j = 4 by omega) with rfl | rfl | rfl | rfl | rfl <;> rfl) (Nat.le_of_ble_eq_true rfl) (Nat.le_of_ble_eq_true rfl) dL_law_0 (fun q0 H hP hD hS => ?_)
  have hP : va_P D vwCl [(q0, .inr (6, [.null, .null, .null, .null, .null]))] H := hP
  have hD : va_D (fun q : Nat => s.heap.size ≤ q) [(q0, .inr (6, [.null, .null, .null, .null, .null]))] := hD
  refine W.widen (k := 1) (n := 5) (by omega) (by omega) ?_
  refine lv_dup hx hb dL_law_3 rfl ?_
  have hPc := hP.sub (ws' := [(q0, .inr (6, [.null, .null, .null, .null, .null]))]) [0] rfl
  have hDc := hD.sub (ws' := [(q0, .inr (6, [.null, .null, .null, .null, .null]))]) [0] (by decide) rfl
  have hKc1 := hK.sub (tys' := []) [] rfl
  have hFc := va_free (wc := [(q0, .inr (6, [.null, .null, .null, .null, .null]))]) hD hS hA [0] rfl
  refine va_callv (va_runI (As := []) (rest := [.ref q0]) ⟨hx, hb, hml, hown, hts⟩ (ci_Km l D q0 H.size) (cwI 0 hts gL_law_X6_init rfl rfl rfl (hts0 _ (List.mem_of_getElem? (i := 88) rfl)) (hts0 _ (List.mem_of_getElem? (i := 98) rfl)) (hts0 _ (List.mem_of_getElem? (i := 99) rfl)) rfl (by decide +kernel) ⟨Nat.le_of_ble_eq_true rfl, Nat.le_of_ble_eq_true rfl⟩) ⟨fun a U g mk q => by obtain ⟨q0, q1, qP, qK, qD, qN⟩ := q; exact ⟨q0, q1, qP, va_K.moved (u := U) (U := U.calling g mk a) (Vm.Alike.refl U.vm) qK, qD, qN⟩, fun U hU hW => ⟨rfl, by rw [hU], by rw [hU]; exact hPc, va_K.moved hW.alike hKc1, hDc.weaken (fun _ _ _ _ => trivial), va_Nw.warmM hW hNw⟩⟩ rfl rfl hl.1 rfl (lv_room (Nat.le_of_ble_eq_true rfl)) dL_law_4 ⟨Nat.le_of_ble_eq_true rfl, Nat.le_of_ble_eq_true rfl⟩) hS (fun q _ h => hFc q h) hFc (fun u t H1 locs ht hvm hw hB hz1 hk1 hS => ?_)
  obtain ⟨a0, k0⟩ := u
  obtain ⟨hP1, hK1, hD1⟩ := hB
  rw [ht] at hP1
  have hK1 := va_K.moved hvm.symm hK1
  obtain ⟨hP, hD⟩ := va_join (wr := []) (w1 := [(q0, .inr (6, [.ref (a0 1), .ref (a0 4), .ref (a0 5), .ref (a0 6), .ref (a0 9)])), ((a0 1), .inr (4, [.ref (a0 2), .ref (a0 3), .int 0, .int 0, .int 0, .int 3, .int 1, .int 0, .int 0, .int 0, .int 0, .int 0, .int 0, .int 0, .int 0, .int 0])), ((a0 2), .inl ((k0 2), 64, .inl (fun _ => 0))), ((a0 3), .inl ((k0 3), 256, .inl (fun _ => 0))), ((a0 4), .inr (5, [.int 1, .int 0, .int 0, .int 0, .int 0, .int 0, .int 0])), ((a0 5), .inr (5, [.int 0, .int 0, .int 0, .int 0, .int 0, .int 0, .int 0])), ((a0 6), .inr (1, [.ref (a0 7), .ref (a0 8), .ref (a0 4), .ref (a0 5), .ref (a0 1)])), ((a0 7), .inl ((k0 7), 1024, .inl (fun _ => 0))), ((a0 8), .inl ((k0 8), 1024, .inl (fun _ => 0))), ((a0 9), .inr (3, [.ref (a0 6), .ref (a0 11), .ref (a0 10), .int 0, .int 0, .int 0, .int 0, .int 0, .int 0, .int 0])), ((a0 10), .inr (2, [.int 0])), ((a0 11), .inr (0, [.ref (a0 10)]))]) hP hD [0] [] rfl rfl (by decide) (by decide) hk1 hFc hP1 hD1
  have hK := (hK.sub (tys' := []) [] rfl).app hK1
  generalize H1 = H at hP hS ⊢
  have hP : va_P D vwCl [(q0, .inr (6, [.ref (a0 1), .ref (a0 4), .ref (a0 5), .ref (a0 6), .ref (a0 9)])), ((a0 1), .inr (4, [.ref (a0 2), .ref (a0 3), .int 0, .int 0, .int 0, .int 3, .int 1, .int 0, .int 0, .int 0, .int 0, .int 0, .int 0, .int 0, .int 0, .int 0])), ((a0 2), .inl ((k0 2), 64, .inl (fun _ => 0))), ((a0 3), .inl ((k0 3), 256, .inl (fun _ => 0))), ((a0 4), .inr (5, [.int 1, .int 0, .int 0, .int 0, .int 0, .int 0, .int 0])), ((a0 5), .inr (5, [.int 0, .int 0, .int 0, .int 0, .int 0, .int 0, .int 0])), ((a0 6), .inr (1, [.ref (a0 7), .ref (a0 8), .ref (a0 4), .ref (a0 5), .ref (a0 1)])), ((a0 7), .inl ((k0 7), 1024, .inl (fun _ => 0))), ((a0 8), .inl ((k0 8), 1024, .inl (fun _ => 0))), ((a0 9), .inr (3, [.ref (a0 6), .ref (a0 11), .ref (a0 10), .int 0, .int 0, .int 0, .int 0, .int 0, .int 0, .int 0])), ((a0 10), .inr (2, [.int 0])), ((a0 11), .inr (0, [.ref (a0 10)]))] H := hP
  have hD : va_D (fun q : Nat => s.heap.size ≤ q) [(q0, .inr (6, [.ref (a0 1), .ref (a0 4), .ref (a0 5), .ref (a0 6), .ref (a0 9)])), ((a0 1), .inr (4, [.ref (a0 2), .ref (a0 3), .int 0, .int 0, .int 0, .int 3, .int 1, .int 0, .int 0, .int 0, .int 0, .int 0, .int 0, .int 0, .int 0, .int 0])), ((a0 2), .inl ((k0 2), 64, .inl (fun _ => 0))), ((a0 3), .inl ((k0 3), 256, .inl (fun _ => 0))), ((a0 4), .inr (5, [.int 1, .int 0, .int 0, .int 0, .int 0, .int 0, .int 0])), ((a0 5), .inr (5, [.int 0, .int 0, .int 0, .int 0, .int 0, .int 0, .int 0])), ((a0 6), .inr (1, [.ref (a0 7), .ref (a0 8), .ref (a0 4), .ref (a0 5), .ref (a0 1)])), ((a0 7), .inl ((k0 7), 1024, .inl (fun _ => 0))), ((a0 8), .inl ((k0 8), 1024, .inl (fun _ => 0))), ((a0 9), .inr (3, [.ref (a0 6), .ref (a0 11), .ref (a0 10), .int 0, .int 0, .int 0, .int 0, .int 0, .int 0, .int 0])), ((a0 10), .inr (2, [.int 0])), ((a0 11), .inr (0, [.ref (a0 10)]))] := hD
  have hK : va_K D vwCl [((k0 2), .int), ((k0 3), .int), ((k0 7), .int), ((k0 8), .int)] s := hK
  refine W.widen (k := 12) (n := 2420) (by omega) (by omega) ?_
  refine lv_astore_n (lv' := [(1, .ref q0), (0, .ref b)]) hx hb dL_law_7 rfl hl (by decide) rfl (fun ls hl => ?_)
  refine va_new (ci := 7) (fs := [.null, .null, .int 0, .int 0, .int 0, .int 0, .int 0, .int 0, .int 0, .int 0, .null, .null, .null, .null, .null, .null, .int 0, .int 0, .int 0, .int 0, .int 0, .int 0, .int 0, .int 0, .int 0, .int 0, .int 0, .int 0, .int 0, .null, .null]) (C := RX7) (T := TX7) (N := 31) hx hb hts0 inX7 tyX7 tyX7_ok hown (hts0 _ (List.mem_of_getElem? (i := 677) rfl)) (hts0 _ (List.mem_of_getElem? (i := 678) rfl)) (hts0 _ (List.mem_of_getElem? (i := 95) rfl)) hK hP hD hS hA rfl (fun j hj => by rcases (show j = 0 ∨ j = 1 ∨ j = 2 ∨ j = 3 ∨ j = 4 ∨ j = 5 ∨ j = 6 ∨ j = 7 ∨ j = 8 ∨ j = 9 ∨ j = 10 ∨ j = 11 ∨ j = 12 ∨ j = 13 ∨ j = 14 ∨ j = 15 ∨ j = 16 ∨ j = 17 ∨ j = 18 ∨ j = 19 ∨ j = 20 ∨ j = 21 ∨ j = 22 ∨ j = 23 ∨ j = 24 ∨ j = 25 ∨ j = 26 ∨ j = 27 ∨ j = 28 ∨ j = 29 ∨ j = 30 by omega) with rfl | rfl | rfl | rfl | rfl | rfl | rfl | rfl | rfl | rfl | rfl | rfl | rfl | rfl | rfl | rfl | rfl | rfl | rfl | rfl | rfl | rfl | rfl | rfl | rfl | rfl | rfl | rfl | rfl | rfl | rfl <;> rfl) (Nat.le_of_ble_eq_true rfl) (Nat.le_of_ble_eq_true rfl) dL_law_8 (fun q8 H hP hD hS => ?_)
  have hP : va_P D vwCl [(q0, .inr (6, [.ref (a0 1), .ref (a0 4), .ref (a0 5), .ref (a0 6), .ref (a0 9)])), ((a0 1), .inr (4, [.ref (a0 2), .ref (a0 3), .int 0, .int 0, .int 0, .int 3, .int 1, .int 0, .int 0, .int 0, .int 0, .int 0, .int 0, .int 0, .int 0, .int 0])), ((a0 2), .inl ((k0 2), 64, .inl (fun _ => 0))), ((a0 3), .inl ((k0 3), 256, .inl (fun _ => 0))), ((a0 4), .inr (5, [.int 1, .int 0, .int 0, .int 0, .int 0, .int 0, .int 0])), ((a0 5), .inr (5, [.int 0, .int 0, .int 0, .int 0, .int 0, .int 0, .int 0])), ((a0 6), .inr (1, [.ref (a0 7), .ref (a0 8), .ref (a0 4), .ref (a0 5), .ref (a0 1)])), ((a0 7), .inl ((k0 7), 1024, .inl (fun _ => 0))), ((a0 8), .inl ((k0 8), 1024, .inl (fun _ => 0))), ((a0 9), .inr (3, [.ref (a0 6), .ref (a0 11), .ref (a0 10), .int 0, .int 0, .int 0, .int 0, .int 0, .int 0, .int 0])), ((a0 10), .inr (2, [.int 0])), ((a0 11), .inr (0, [.ref (a0 10)])), (q8, .inr (7, [.null, .null, .int 0, .int 0, .int 0, .int 0, .int 0, .int 0, .int 0, .int 0, .null, .null, .null, .null, .null, .null, .int 0, .int 0, .int 0, .int 0, .int 0, .int 0, .int 0, .int 0, .int 0, .int 0, .int 0, .int 0, .int 0, .null, .null]))] H := hP
  have hD : va_D (fun q : Nat => s.heap.size ≤ q) [(q0, .inr (6, [.ref (a0 1), .ref (a0 4), .ref (a0 5), .ref (a0 6), .ref (a0 9)])), ((a0 1), .inr (4, [.ref (a0 2), .ref (a0 3), .int 0, .int 0, .int 0, .int 3, .int 1, .int 0, .int 0, .int 0, .int 0, .int 0, .int 0, .int 0, .int 0, .int 0])), ((a0 2), .inl ((k0 2), 64, .inl (fun _ => 0))), ((a0 3), .inl ((k0 3), 256, .inl (fun _ => 0))), ((a0 4), .inr (5, [.int 1, .int 0, .int 0, .int 0, .int 0, .int 0, .int 0])), ((a0 5), .inr (5, [.int 0, .int 0, .int 0, .int 0, .int 0, .int 0, .int 0])), ((a0 6), .inr (1, [.ref (a0 7), .ref (a0 8), .ref (a0 4), .ref (a0 5), .ref (a0 1)])), ((a0 7), .inl ((k0 7), 1024, .inl (fun _ => 0))), ((a0 8), .inl ((k0 8), 1024, .inl (fun _ => 0))), ((a0 9), .inr (3, [.ref (a0 6), .ref (a0 11), .ref (a0 10), .int 0, .int 0, .int 0, .int 0, .int 0, .int 0, .int 0])), ((a0 10), .inr (2, [.int 0])), ((a0 11), .inr (0, [.ref (a0 10)])), (q8, .inr (7, [.null, .null, .int 0, .int 0, .int 0, .int 0, .int 0, .int 0, .int 0, .int 0, .null, .null, .null, .null, .null, .null, .int 0, .int 0, .int 0, .int 0, .int 0, .int 0, .int 0, .int 0, .int 0, .int 0, .int 0, .int 0, .int 0, .null, .null]))] := hD
  refine W.widen (k := 13) (n := 2451) (by omega) (by omega) ?_
  refine lv_dup hx hb dL_law_11 rfl ?_
  have hPc := hP.sub (ws' := [(q8, .inr (7, [.null, .null, .int 0, .int 0, .int 0, .int 0, .int 0, .int 0, .int 0, .int 0, .null, .null, .null, .null, .null, .null, .int 0, .int 0, .int 0, .int 0, .int 0, .int 0, .int 0, .int 0, .int 0, .int 0, .int 0, .int 0, .int 0, .null, .null]))]) [12] rfl
  have hDc := hD.sub (ws' := [(q8, .inr (7, [.null, .null, .int 0, .int 0, .int 0, .int 0, .int 0, .int 0, .int 0, .int 0, .null, .null, .null, .null, .null, .null, .int 0, .int 0, .int 0, .int 0, .int 0, .int 0, .int 0, .int 0, .int 0, .int 0, .int 0, .int 0, .int 0, .null, .null]))]) [12] (by decide) rfl
  have hKc1 := hK.sub (tys' := []) [] rfl
  have hFc := va_free (wc := [(q8, .inr (7, [.null, .null, .int 0, .int 0, .int 0, .int 0, .int 0, .int 0, .int 0, .int 0, .null, .null, .null, .null, .null, .null, .int 0, .int 0, .int 0, .int 0, .int 0, .int 0, .int 0, .int 0, .int 0, .int 0, .int 0, .int 0, .int 0, .null, .null]))]) hD hS hA [12] rfl
  refine va_callv (va_runI (As := []) (rest := [.ref q8]) ⟨hx, hb, hml, hown, hts⟩ (ci_Md l D q8 H.size) (cwI 0 hts gL_law_X7_init rfl rfl rfl (hts0 _ (List.mem_of_getElem? (i := 95) rfl)) (hts0 _ (List.mem_of_getElem? (i := 679) rfl)) (hts0 _ (List.mem_of_getElem? (i := 680) rfl)) rfl (by decide +kernel) ⟨Nat.le_of_ble_eq_true rfl, Nat.le_of_ble_eq_true rfl⟩) ⟨fun a U g mk q => by obtain ⟨q0, q1, qP, qK, qD⟩ := q; exact ⟨q0, q1, qP, va_K.moved (u := U) (U := U.calling g mk a) (Vm.Alike.refl U.vm) qK, qD⟩, fun U hU hW => ⟨rfl, by rw [hU], by rw [hU]; exact hPc, va_K.moved hW.alike hKc1, hDc.weaken (fun _ _ _ _ => trivial)⟩⟩ rfl rfl hl.1 rfl (lv_room (Nat.le_of_ble_eq_true rfl)) dL_law_12 ⟨Nat.le_of_ble_eq_true rfl, Nat.le_of_ble_eq_true rfl⟩) hS (fun q _ h => hFc q h) hFc (fun u t H1 locs ht hvm hw hB hz1 hk1 hS => ?_)
  obtain ⟨a8, k8⟩ := u
  obtain ⟨hP1, hK1, hD1⟩ := hB
  rw [ht] at hP1
  have hK1 := va_K.moved hvm.symm hK1
  obtain ⟨hP, hD⟩ := va_join (wr := [(q0, .inr (6, [.ref (a0 1), .ref (a0 4), .ref (a0 5), .ref (a0 6), .ref (a0 9)])), ((a0 1), .inr (4, [.ref (a0 2), .ref (a0 3), .int 0, .int 0, .int 0, .int 3, .int 1, .int 0, .int 0, .int 0, .int 0, .int 0, .int 0, .int 0, .int 0, .int 0])), ((a0 2), .inl ((k0 2), 64, .inl (fun _ => 0))), ((a0 3), .inl ((k0 3), 256, .inl (fun _ => 0))), ((a0 4), .inr (5, [.int 1, .int 0, .int 0, .int 0, .int 0, .int 0, .int 0])), ((a0 5), .inr (5, [.int 0, .int 0, .int 0, .int 0, .int 0, .int 0, .int 0])), ((a0 6), .inr (1, [.ref (a0 7), .ref (a0 8), .ref (a0 4), .ref (a0 5), .ref (a0 1)])), ((a0 7), .inl ((k0 7), 1024, .inl (fun _ => 0))), ((a0 8), .inl ((k0 8), 1024, .inl (fun _ => 0))), ((a0 9), .inr (3, [.ref (a0 6), .ref (a0 11), .ref (a0 10), .int 0, .int 0, .int 0, .int 0, .int 0, .int 0, .int 0])), ((a0 10), .inr (2, [.int 0])), ((a0 11), .inr (0, [.ref (a0 10)]))]) (w1 := [(q8, .inr (7, [.ref (a8 1), .ref (a8 2), .int 0, .int 0, .int 0, .int 0, .int 0, .int 0, .int 0, .int 0, .ref (a8 3), .ref (a8 4), .ref (a8 5), .ref (a8 6), .ref (a8 7), .ref (a8 8), .int 0, .int 0, .int 0, .int 0, .int 0, .int 0, .int 0, .int 0, .int 0, .int 1, .int 0, .int 0, .int 0, .ref (a8 9), .ref (a8 10)])), ((a8 1), .inl ((k8 1), 1024, .inl (fun _ => 0))), ((a8 2), .inl ((k8 2), 1024, .inl (fun _ => 0))), ((a8 3), .inl ((k8 3), 2, .inl (fun _ => 0))), ((a8 4), .inl ((k8 4), 2, .inl (fun _ => 0))), ((a8 5), .inl ((k8 5), 2, .inl (fun _ => 0))), ((a8 6), .inl ((k8 6), 2, .inl (fun _ => 0))), ((a8 7), .inl ((k8 7), 2, .inl (fun _ => 0))), ((a8 8), .inl ((k8 8), 2, .inl (fun _ => 0))), ((a8 9), .inl ((k8 9), 64, .inl (fun _ => 0))), ((a8 10), .inl ((k8 10), 256, .inl (fun _ => 0)))]) hP hD [12] [0, 1, 2, 3, 4, 5, 6, 7, 8, 9, 10, 11] rfl rfl (by decide) (by decide) hk1 hFc hP1 hD1
  have hK := (hK.sub (tys' := [((k0 2), .int), ((k0 3), .int), ((k0 7), .int), ((k0 8), .int)]) [0, 1, 2, 3] rfl).app hK1
  generalize H1 = H at hP hS ⊢
  obtain ⟨ad, had⟩ : ∃ ad : Nat → Nat, ad = (fun k => match k with | 0 => q0 | 1 => a0 1 | 2 => a0 2 | 3 => a0 3 | 4 => a0 4 | 5 => a0 5 | 6 => a0 6 | 7 => a0 7 | 8 => a0 8 | 9 => a0 9 | 10 => a0 10 | 11 => a0 11 | 12 => q8 | 13 => a8 1 | 14 => a8 2 | 15 => a8 3 | 16 => a8 4 | 17 => a8 5 | 18 => a8 6 | 19 => a8 7 | 20 => a8 8 | 21 => a8 9 | _ => a8 10) := ⟨_, rfl⟩
  obtain ⟨cA, hcA⟩ : ∃ cA : Nat → ClassId, cA = (fun k => match k with | 2 => k0 2 | 3 => k0 3 | 7 => k0 7 | 8 => k0 8 | 13 => k8 1 | 14 => k8 2 | 15 => k8 3 | 16 => k8 4 | 17 => k8 5 | 18 => k8 6 | 19 => k8 7 | 20 => k8 8 | 21 => k8 9 | _ => k8 10) := ⟨_, rfl⟩
  have hP : va_P D vwCl (wAll cA ad mu0 nu0) H := by subst had; subst hcA; exact hP
  have hD : va_D (fun q : Nat => s.heap.size ≤ q) (wAll cA ad mu0 nu0) := by subst had; subst hcA; exact hD
  have hK : va_K D vwCl (aTys cA) s := by subst hcA; exact hK
  have e0 : q0 = ad 0 := by subst had; rfl
  have e8 : q8 = ad 12 := by subst had; rfl
  refine W.widen (k := 23) (n := 4831) (by omega) (by omega) ?_
  refine lv_astore_n (lv' := [(2, .ref q8), (1, .ref q0), (0, .ref b)]) hx hb dL_law_15 rfl hl (by decide) rfl (fun ls hl => ?_)
  refine lv_iconst (v := 0) hx hb dL_law_16 (by decide) ?_
  refine lv_istore_n (lv' := [(3, .int 0), (2, .ref q8), (1, .ref q0), (0, .ref b)]) hx hb dL_law_17 rfl hl (by decide) rfl (fun ls hl => ?_)
  rw [e0, e8] at hl
  have C : Cx code 4 ret wsL_law RL (fun q : Nat => s.heap.size ≤ q) D cA tb p s m #[Value.ref b] meth c := ⟨hx, hb, hr, hml, hown, hts, hlocks, hK, hA, hSx⟩
  exact law_loop hL C hX hbl (L + 1) 0 0 (Nat.zero_le L) (by omega) nI_0.symm mu0 nu0 _ _ rel0 ⟨hP, hD, hS⟩ ls (lv_sub hl [3, 2, 1, 0] rfl)
