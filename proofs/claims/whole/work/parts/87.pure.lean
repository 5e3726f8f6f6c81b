-- the law's loop
theorem Rel0 : Rel 0 0 q_z0 q_z0 := by
  have qz : ∀ (P : Int32 → Prop) (c : Nat) (a row : Nat → Int32), 0 < c → RQ P c 0 0 a 0 row := by
    intro P c a row hc
    exact ⟨0, 0, hc, by omega, nI_0.symm, nI_0.symm, nI_0.symm, fun j hj => by omega⟩
  have rz : ∀ (o : Nat) (f g : Nat → Int32), RW 0 o 0 0 f g := fun o f g => ⟨0, by omega, nI_0.symm, nI_0.symm, fun j hj => by omega⟩
  refine ⟨⟨by omega, nI_0.symm, nI_0.symm, fun j hj => by omega⟩, ⟨0, by omega, nI_0.symm, fun q _ => ?_⟩, fun q _ => Or.inl rfl, fun j hj => by omega, fun j hj => ?_, fun j _ => rfl, qz _ _ _ _ (by omega), qz _ _ _ _ (by omega), qz _ _ _ _ (by omega), qz _ _ _ _ (by omega), qz _ _ _ _ (by omega), ⟨0, 0, by omega, by omega, nI_0.symm, nI_0.symm, nI_0.symm, fun j hj => by omega, fun _ hj => by omega⟩, fun j _ => rfl, fun j _ _ => rfl, ⟨0, by omega, nI_0.symm, nI_0.symm⟩, ⟨⟨0, by omega, nI_0.symm, nI_0.symm⟩, fun _ j hj => by omega⟩, rfl, rfl, fun _ => ⟨rfl, Or.inl rfl⟩, rfl, rz _ _ _, fun j _ => rfl, fun j _ => rfl, ⟨0, by omega, nI_0.symm, nI_0.symm⟩, rz _ _ _⟩
  · rw [Nat.zero_testBit]
    exact ⟨fun _ => rfl, fun _ => rfl⟩
  · show (0 : Int32) = 0 + nI j * 0
    rw [Int32.mul_zero, Int32.zero_add]
theorem lf9 {xs : Nat → Int32} {L n : Nat} {z t : ST} {y1 y2 y3 y4 : Int32} : lw_f xs L (n + 1) 9 z t y1 y2 y3 y4 = lw_f xs L n 0 z t (y1 + 5) 0 0 0 := rfl
theorem lf0 {xs : Nat → Int32} {L n : Nat} {z t : ST} {y1 y2 y3 y4 : Int32} : lw_f xs L (n + 1) 0 z t y1 y2 y3 y4 = lw_g18 xs L (lw_f xs L n) z t y1 y2 y3 y4 := rfl
theorem lf1 {xs : Nat → Int32} {L n : Nat} {z t : ST} {y1 y2 y3 y4 : Int32} : lw_f xs L (n + 1) 1 z t y1 y2 y3 y4 = lw_g411 xs L (lw_f xs L n) z t y1 y2 y3 y4 := rfl
theorem lf2 {xs : Nat → Int32} {L n : Nat} {z t : ST} {y1 y2 y3 y4 : Int32} : lw_f xs L (n + 1) 2 z t y1 y2 y3 y4 = lw_g433 xs L (lw_f xs L n) z t y1 y2 y3 y4 := rfl
theorem lf3 {xs : Nat → Int32} {L n : Nat} {z t : ST} {y1 y2 y3 y4 : Int32} : lw_f xs L (n + 1) 3 z t y1 y2 y3 y4 = lw_g460 xs L (lw_f xs L n) z t y1 y2 y3 y4 := rfl
theorem lf4 {xs : Nat → Int32} {L n : Nat} {z t : ST} {y1 y2 y3 y4 : Int32} : lw_f xs L (n + 1) 4 z t y1 y2 y3 y4 = lw_g482 xs L (lw_f xs L n) z t y1 y2 y3 y4 := rfl
theorem lf5 {xs : Nat → Int32} {L n : Nat} {z t : ST} {y1 y2 y3 y4 : Int32} : lw_f xs L (n + 1) 5 z t y1 y2 y3 y4 = lw_g540 xs L (lw_f xs L n) z t y1 y2 y3 y4 := rfl
theorem lf6 {xs : Nat → Int32} {L n : Nat} {z t : ST} {y1 y2 y3 y4 : Int32} : lw_f xs L (n + 1) 6 z t y1 y2 y3 y4 = lw_g557 xs L (lw_f xs L n) z t y1 y2 y3 y4 := rfl
theorem lf7 {xs : Nat → Int32} {L n : Nat} {z t : ST} {y1 y2 y3 y4 : Int32} : lw_f xs L (n + 1) 7 z t y1 y2 y3 y4 = lw_g584 xs L (lw_f xs L n) z t y1 y2 y3 y4 := rfl
theorem lf8 {xs : Nat → Int32} {L n : Nat} {z t : ST} {y1 y2 y3 y4 : Int32} : lw_f xs L (n + 1) 8 z t y1 y2 y3 y4 = lw_g606 xs L (lw_f xs L n) z t y1 y2 y3 y4 := rfl
/-- one call of the script -/
theorem law_step {xs : Nat → Int32} {L k n bd N : Nat} {z t : ST} (h : Rel bd N z t) (hbd : bd < 900000) (hk : 5 * k + 5 ≤ L) (hL : L ≤ 2560) : ∃ n' z' t' N', n ≤ n' ∧ Rel (bd + 50) N' z' t' ∧ lw_f xs L (n + 4) 0 z t (nI (5 * k)) 0 0 0 = lw_f xs L n' 0 z' t' (nI (5 * (k + 1))) 0 0 0 := by
  have a0 : nI (5 * k) + 5 = nI (5 * (k + 1)) := nI_add (5 * k) 5
  have G0 : ∀ x : OL, gil (nI (5 * k)) L x = x := fun x => gil_n (by omega) (by omega)
  have C0 : (nI (5 * k)).toNatClampNeg = 5 * k := cl_n (by omega)
  have A1 : nI (5 * k) + 1 = nI (5 * k + 1) := nI_add (5 * k) 1
  have G1 : ∀ x : OL, gil (nI (5 * k + 1)) L x = x := fun x => gil_n (by omega) (by omega)
  have C1 : (nI (5 * k + 1)).toNatClampNeg = 5 * k + 1 := cl_n (by omega)
  have A2 : nI (5 * k) + 2 = nI (5 * k + 2) := nI_add (5 * k) 2
  have G2 : ∀ x : OL, gil (nI (5 * k + 2)) L x = x := fun x => gil_n (by omega) (by omega)
  have C2 : (nI (5 * k + 2)).toNatClampNeg = 5 * k + 2 := cl_n (by omega)
  have A3 : nI (5 * k) + 3 = nI (5 * k + 3) := nI_add (5 * k) 3
  have G3 : ∀ x : OL, gil (nI (5 * k + 3)) L x = x := fun x => gil_n (by omega) (by omega)
  have C3 : (nI (5 * k + 3)).toNatClampNeg = 5 * k + 3 := cl_n (by omega)
  have A4 : nI (5 * k) + 4 = nI (5 * k + 4) := nI_add (5 * k) 4
  have G4 : ∀ x : OL, gil (nI (5 * k + 4)) L x = x := fun x => gil_n (by omega) (by omega)
  have C4 : (nI (5 * k + 4)).toNatClampNeg = 5 * k + 4 := cl_n (by omega)
  have nend : ¬ (Int32.ofNat L) - 5 < nI (5 * k) := by
    have e : (Int32.ofNat L - 5).toInt = (L : Int) - 5 := pk_sub_toInt (a := L) (b := 5) (by omega) (by omega)
    rw [Int32.lt_iff_toInt_lt, e, nI_toInt (by omega)]
    omega
  rw [show n + 4 = n + 3 + 1 by omega, lf0]
  simp only [lw_g18, if_neg nend, G0, C0, A1, A2, A3, A4, G1, G2, G3, G4, C1, C2, C3, C4]
  have up : ∀ {N' : Nat} {z' t' : ST}, Rel bd N' z' t' → Rel (bd + 50) N' z' t' := fun h => R_monoN h (by omega)
  generalize xs (5 * k) &&& 31 = op
  by_cases q0 : op = 0
  · rw [if_pos q0]
    obtain ⟨r, z', t', N', c1, c2, c3⟩ := callAdd h (xs (5 * k + 1)) (xs (5 * k + 2)) (xs (5 * k + 3)) (xs (5 * k + 4))
    refine ⟨n + 2, z', t', N', by omega, up c3, ?_⟩
    rw [c1, oln_s, c2, oln_s, if_pos rfl, lf9, a0]
  rw [if_neg q0]
  by_cases q1 : op = 1
  · rw [if_pos q1]
    obtain ⟨r, s, z', t', c1, c2, c3⟩ := callF h (xs (5 * k + 1)) (xs (5 * k + 2))
    refine ⟨n + 2, z', t', N, by omega, up c3, ?_⟩
    rw [c1, oln_s, c2, oln_s, lf9, a0]
  rw [if_neg q1]
  by_cases q2 : op = 2
  · rw [if_pos q2]
    obtain ⟨r, z', t', c1, c2, c3⟩ := callC h
    refine ⟨n + 2, z', t', 0, by omega, up c3, ?_⟩
    rw [c1, oln_s, c2, oln_s, if_pos rfl, lf9, a0]
  rw [if_neg q2]
  by_cases q3 : op = 3
  · rw [if_pos q3]
    obtain ⟨r, z', t', c1, c2, c3⟩ := callR h
    refine ⟨n + 2, z', t', N, by omega, up c3, ?_⟩
    rw [c1, oln_s, c2, oln_s, lf9, a0]
  rw [if_neg q3]
  by_cases q4 : op = 4
  · rw [if_pos q4]
    obtain ⟨r, c1, c2⟩ := o_streamOf h (xs (5 * k + 1))
    refine ⟨n + 2, z, t, N, by omega, up h, ?_⟩
    rw [c1, oln_s, c2, oln_s, if_pos rfl, lf9, a0]
  rw [if_neg q4]
  by_cases q5 : op = 5
  · rw [if_pos q5]
    obtain ⟨r, c1, c2⟩ := o_addrRegs h
    refine ⟨n + 2, z, t, N, by omega, up h, ?_⟩
    rw [c1, oln_s, c2, oln_s, if_pos rfl, lf9, a0]
  rw [if_neg q5]
  by_cases q6 : op = 6
  · rw [if_pos q6]
    obtain ⟨r, z', t', c1, c2, c3⟩ := callA h (xs (5 * k + 1))
    refine ⟨n + 2, z', t', N, by omega, up c3, ?_⟩
    rw [c1, oln_s, c2, oln_s, if_pos rfl, lf9, a0]
  rw [if_neg q6]
  by_cases q7 : op = 7
  · rw [if_pos q7]
    obtain ⟨r, z', t', c1, c2, c3⟩ := calV h hbd (xs (5 * k + 1))
    refine ⟨n + 2, z', t', N, by omega, c3, ?_⟩
    rw [c1, oln_s, c2, oln_s, if_pos rfl, lf9, a0]
  rw [if_neg q7]
  by_cases q8 : op = 8
  · rw [if_pos q8]
    obtain ⟨r, z', t', c1, c2, c3⟩ := callB h hbd (xs (5 * k + 1))
    refine ⟨n + 2, z', t', N, by omega, c3, ?_⟩
    rw [c1, oln_s, c2, oln_s, if_pos rfl, lf9, a0]
  rw [if_neg q8]
  by_cases q9 : op = 9
  · rw [if_pos q9]
    obtain ⟨r, c1, c2⟩ := o_place h (xs (5 * k + 1))
    refine ⟨n + 2, z, t, N, by omega, up h, ?_⟩
    rw [c1, oln_s, c2, oln_s, if_pos rfl, lf9, a0]
  rw [if_neg q9]
  by_cases q10 : op = 10
  · rw [if_pos q10]
    obtain ⟨r, c1, c2⟩ := o_slip h
    refine ⟨n + 2, z, t, N, by omega, up h, ?_⟩
    rw [c1, oln_s, c2, oln_s, if_pos rfl, lf9, a0]
  rw [if_neg q10]
  by_cases q11 : op = 11
  · rw [if_pos q11]
    obtain ⟨r, c1, c2⟩ := o_queue h (xs (5 * k + 1))
    refine ⟨n + 2, z, t, N, by omega, up h, ?_⟩
    rw [c1, oln_s, c2, oln_s, if_pos rfl, lf9, a0]
  rw [if_neg q11]
  by_cases q12 : op = 12
  · rw [if_pos q12]
    by_cases w : xs (5 * k + 2) = 0
    · obtain ⟨r, c1, c2⟩ := o_register h (xs (5 * k + 1)) 0
      refine ⟨n, z, t, N, by omega, up h, ?_⟩
      rw [if_pos w, show n + 3 = n + 2 + 1 by omega, lf1]
      simp only [lw_g411, c1, oln_s, A1, A2, G1, G2, C1, C2, if_pos w]
      rw [show n + 2 = n + 1 + 1 by omega, lf2]
      simp only [lw_g433, c2, oln_s, if_true]
      rw [lf9, a0]
    · obtain ⟨r, c1, c2⟩ := o_register h (xs (5 * k + 1)) 1
      refine ⟨n, z, t, N, by omega, up h, ?_⟩
      rw [if_neg w, show n + 3 = n + 2 + 1 by omega, lf1]
      simp only [lw_g411, c1, oln_s, A1, A2, G1, G2, C1, C2, if_neg w]
      rw [show n + 2 = n + 1 + 1 by omega, lf2]
      simp only [lw_g433, c2, oln_s, if_true]
      rw [lf9, a0]
  rw [if_neg q12]
  by_cases q13 : op = 13
  · rw [if_pos q13]
    by_cases w : xs (5 * k + 2) = 0
    · obtain ⟨r, c1, c2⟩ := o_peek h (xs (5 * k + 1)) 0
      refine ⟨n, z, t, N, by omega, up h, ?_⟩
      rw [if_pos w, show n + 3 = n + 2 + 1 by omega, lf3]
      simp only [lw_g460, c1, oln_s, A1, A2, G1, G2, C1, C2, if_pos w]
      rw [show n + 2 = n + 1 + 1 by omega, lf4]
      simp only [lw_g482, c2, oln_s, if_true]
      rw [lf9, a0]
    · obtain ⟨r, c1, c2⟩ := o_peek h (xs (5 * k + 1)) 1
      refine ⟨n, z, t, N, by omega, up h, ?_⟩
      rw [if_neg w, show n + 3 = n + 2 + 1 by omega, lf3]
      simp only [lw_g460, c1, oln_s, A1, A2, G1, G2, C1, C2, if_neg w]
      rw [show n + 2 = n + 1 + 1 by omega, lf4]
      simp only [lw_g482, c2, oln_s, if_true]
      rw [lf9, a0]
  rw [if_neg q13]
  by_cases q14 : op = 14
  · rw [if_pos q14]
    obtain ⟨r, c1, c2⟩ := o_losses h
    refine ⟨n + 2, z, t, N, by omega, up h, ?_⟩
    rw [c1, oln_s, c2, oln_s, if_pos rfl, lf9, a0]
  rw [if_neg q14]
  by_cases q15 : op = 15
  · rw [if_pos q15]
    obtain ⟨r, z', t', c1, c2, c3⟩ := calP h hbd (xs (5 * k + 1))
    refine ⟨n + 2, z', t', N, by omega, c3, ?_⟩
    rw [c1, oln_s, c2, oln_s, if_pos rfl, lf9, a0]
  rw [if_neg q15]
  by_cases q16 : op = 16
  · rw [if_pos q16]
    by_cases w : xs (5 * k + 1) = 0
    · obtain ⟨r, c1, c2⟩ := o_outputs h 0
      refine ⟨n, z, t, N, by omega, up h, ?_⟩
      rw [if_pos w, show n + 3 = n + 2 + 1 by omega, lf5]
      simp only [lw_g540, c1, oln_s, A1, G1, C1, if_pos w]
      rw [show n + 2 = n + 1 + 1 by omega, lf6]
      simp only [lw_g557, c2, oln_s, if_true]
      rw [lf9, a0]
    · obtain ⟨r, c1, c2⟩ := o_outputs h 1
      refine ⟨n, z, t, N, by omega, up h, ?_⟩
      rw [if_neg w, show n + 3 = n + 2 + 1 by omega, lf5]
      simp only [lw_g540, c1, oln_s, A1, G1, C1, if_neg w]
      rw [show n + 2 = n + 1 + 1 by omega, lf6]
      simp only [lw_g557, c2, oln_s, if_true]
      rw [lf9, a0]
  rw [if_neg q16]
  by_cases q17 : op = 17
  · rw [if_pos q17]
    by_cases w : xs (5 * k + 2) = 0
    · obtain ⟨r, c1, c2⟩ := o_output h (by omega) (xs (5 * k + 1)) 0
      refine ⟨n, z, t, N, by omega, up h, ?_⟩
      rw [if_pos w, show n + 3 = n + 2 + 1 by omega, lf7]
      simp only [lw_g584, c1, oln_s, A1, A2, G1, G2, C1, C2, if_pos w]
      rw [show n + 2 = n + 1 + 1 by omega, lf8]
      simp only [lw_g606, c2, oln_s, if_true]
      rw [lf9, a0]
    · obtain ⟨r, c1, c2⟩ := o_output h (by omega) (xs (5 * k + 1)) 1
      refine ⟨n, z, t, N, by omega, up h, ?_⟩
      rw [if_neg w, show n + 3 = n + 2 + 1 by omega, lf7]
      simp only [lw_g584, c1, oln_s, A1, A2, G1, G2, C1, C2, if_neg w]
      rw [show n + 2 = n + 1 + 1 by omega, lf8]
      simp only [lw_g606, c2, oln_s, if_true]
      rw [lf9, a0]
  rw [if_neg q17]
  refine ⟨n + 2, z, t, N, by omega, up h, ?_⟩
  rw [lf9, a0]
/-- the whole script -/
theorem law_all {xs : Nat → Int32} {L : Nat} (hL : L ≤ 2560) : ∀ (m k n bd N : Nat) (z t : ST), L < 5 * (k + m) + 5 → 4 * m + 1 ≤ n → bd + 50 * m < 900000 → 5 * k ≤ 5000 → Rel bd N z t → lw_f xs L n 0 z t (nI (5 * k)) 0 0 0 = some 1 := by
  intro m
  induction m with
  | zero =>
    intro k n bd N z t hm hn hb hk h
    obtain ⟨n, rfl⟩ : ∃ q, n = q + 1 := ⟨n - 1, by omega⟩
    have e : (Int32.ofNat L - 5).toInt = (L : Int) - 5 := pk_sub_toInt (a := L) (b := 5) (by omega) (by omega)
    rw [lf0, lw_g18, if_pos]
    rw [Int32.lt_iff_toInt_lt, e, nI_toInt (by omega)]
    omega
  | succ m ih =>
    intro k n bd N z t hm hn hb hk h
    by_cases q : 5 * k + 5 ≤ L
    · obtain ⟨n, rfl⟩ : ∃ q, n = q + 4 := ⟨n - 4, by omega⟩
      obtain ⟨n', z', t', N', g1, g2, g3⟩ := law_step (xs := xs) (k := k) (n := n) h (by omega) q hL
      rw [g3]
      exact ih (k + 1) n' (bd + 50) N' z' t' (by omega) (by omega) (by omega) (by omega) g2
    · obtain ⟨n, rfl⟩ : ∃ q, n = q + 1 := ⟨n - 1, by omega⟩
      have e : (Int32.ofNat L - 5).toInt = (L : Int) - 5 := pk_sub_toInt (a := L) (b := 5) (by omega) (by omega)
      rw [lf0, lw_g18, if_pos]
      rw [Int32.lt_iff_toInt_lt, e, nI_toInt (by omega)]
      omega
theorem pure_done : q_Pure := by
  intro xs L hL
  refine ⟨4 * 512 + 1, ?_⟩
  have := law_all (xs := xs) hL 512 0 (4 * 512 + 1) 0 0 q_z0 q_z0 (by omega) (by omega) (by omega) (by omega) Rel0
  rw [Nat.mul_zero, nI_0] at this
  exact this
