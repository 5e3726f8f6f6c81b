def fOp (k x y c : Int32) : Int32 := if k = 0 then c else if k = 1 then x + y else if k = 2 then x - y else x * y
def fTst (k x y : Int32) : Int32 := if k = 6 then (if y ≤ x then 0 else 1) else (if x = y then 0 else 1)
theorem fTst_01 {k x y : Int32} : B01 (fTst k x y) := by
  simp only [fTst]
  (repeat' split) <;> first | exact Or.inl rfl | exact Or.inr rfl
theorem m_holds_s (t : ST) (k x y : Int32) : m_holds t k x y = some (fTst k x y, t) := by
  simp only [m_holds, fTst, gib_0, gib_1]
  (repeat' split) <;> rfl
theorem m_reckon_s (t : ST) {k x y c : Int32} (hk : isAr k) : m_reckon t k x y = some (fOp k x y c, t) := by
  rcases hk with h | h | h <;> subst h <;> simp (decide := true) [m_reckon, fOp]
theorem x_test29 {z : ST} {j : Nat} (hj : j < 24) (ha : R8 (z.2 1 j)) (hb : R8 (z.2 2 j)) : x_Run_test_29 z (nI j) = some (fTst (z.2 0 j) (z.2 20 (z.2 1 j).toNatClampNeg) (z.2 20 (z.2 2 j).toNatClampNeg), z) := by
  obtain ⟨ia, -, -, -, hair, -⟩ := R8_cl ha
  obtain ⟨ib, -, -, -, hbir, -⟩ := R8_cl hb
  simp only [x_Run_test_29, gin_n (show j < 24 by omega) (by decide : 24 < 2 ^ 31), cl_n (show j < 2 ^ 31 by omega), gin_r hair, gin_r hbir, gib_0, gib_1, fTst]
  (repeat' split) <;> rfl
theorem x_comp29 {z : ST} {j : Nat} (hj : j < 24) (ha : R8 (z.2 1 j)) (hk : z.2 0 j = 0 ∨ (isAr (z.2 0 j) ∧ R8 (z.2 2 j) ∧ R8 (z.2 3 j))) : x_Run_compute_29 z (nI j) = some (0, stA z 20 (upd (z.2 20) (z.2 1 j).toNatClampNeg (fOp (z.2 0 j) (z.2 20 (z.2 2 j).toNatClampNeg) (z.2 20 (z.2 3 j).toNatClampNeg) (z.2 3 j)))) := by
  obtain ⟨ia, -, -, -, hair, -⟩ := R8_cl ha
  rcases hk with hk | ⟨hk, hb, hc⟩
  · simp (decide := true) only [x_Run_compute_29, x_Run_compute_29_42, gin_n (show j < 24 by omega) (by decide : 24 < 2 ^ 31), cl_n (show j < 2 ^ 31 by omega), gin_r hair, bnd_s, hk, fOp, if_true]
  · obtain ⟨ib, -, -, -, hbir, -⟩ := R8_cl hb
    obtain ⟨ic, -, -, -, hcir, -⟩ := R8_cl hc
    simp only [x_Run_compute_29, x_Run_compute_29_42, x_Run_combined_29, gin_n (show j < 24 by omega) (by decide : 24 < 2 ^ 31), cl_n (show j < 2 ^ 31 by omega), gin_r hair, gin_r hbir, gin_r hcir, bnd_s]
    rcases hk with hk | hk | hk <;> simp (decide := true) only [hk, fOp, if_true, if_false, obn_s]
theorem x_behind29 {z : ST} {j : Nat} {o : Int32} (hj : j < 24) : x_Run_behind_29 z (nI j) o = some (if o = 0 then nI j + 1 else z.2 3 j, z) := by
  simp only [x_Run_behind_29, gin_n (show j < 24 by omega) (by decide : 24 < 2 ^ 31), cl_n (show j < 2 ^ 31 by omega)]
  split <;> rfl
theorem x_test31 {z : ST} {j : Nat} (hj : j < 24) (ha : R8 (z.2 1 j)) (hb : R8 (z.2 2 j)) : x_Run_test_31 z (nI j) = some (fTst (z.2 0 j) (z.2 21 (z.2 1 j).toNatClampNeg) (z.2 21 (z.2 2 j).toNatClampNeg), z) := by
  obtain ⟨ia, -, -, -, hair, -⟩ := R8_cl ha
  obtain ⟨ib, -, -, -, hbir, -⟩ := R8_cl hb
  simp only [x_Run_test_31, gin_n (show j < 24 by omega) (by decide : 24 < 2 ^ 31), cl_n (show j < 2 ^ 31 by omega), gin_r hair, gin_r hbir, gib_0, gib_1, fTst]
  (repeat' split) <;> rfl
theorem x_comp31 {z : ST} {j : Nat} (hj : j < 24) (ha : R8 (z.2 1 j)) (hk : z.2 0 j = 0 ∨ (isAr (z.2 0 j) ∧ R8 (z.2 2 j) ∧ R8 (z.2 3 j))) : x_Run_compute_31 z (nI j) = some (0, stA z 21 (upd (z.2 21) (z.2 1 j).toNatClampNeg (fOp (z.2 0 j) (z.2 21 (z.2 2 j).toNatClampNeg) (z.2 21 (z.2 3 j).toNatClampNeg) (z.2 3 j)))) := by
  obtain ⟨ia, -, -, -, hair, -⟩ := R8_cl ha
  rcases hk with hk | ⟨hk, hb, hc⟩
  · simp (decide := true) only [x_Run_compute_31, x_Run_compute_31_42, gin_n (show j < 24 by omega) (by decide : 24 < 2 ^ 31), cl_n (show j < 2 ^ 31 by omega), gin_r hair, bnd_s, hk, fOp, if_true]
  · obtain ⟨ib, -, -, -, hbir, -⟩ := R8_cl hb
    obtain ⟨ic, -, -, -, hcir, -⟩ := R8_cl hc
    simp only [x_Run_compute_31, x_Run_compute_31_42, x_Run_combined_31, gin_n (show j < 24 by omega) (by decide : 24 < 2 ^ 31), cl_n (show j < 2 ^ 31 by omega), gin_r hair, gin_r hbir, gin_r hcir, bnd_s]
    rcases hk with hk | hk | hk <;> simp (decide := true) only [hk, fOp, if_true, if_false, obn_s]
theorem x_behind31 {z : ST} {j : Nat} {o : Int32} (hj : j < 24) : x_Run_behind_31 z (nI j) o = some (if o = 0 then nI j + 1 else z.2 3 j, z) := by
  simp only [x_Run_behind_31, gin_n (show j < 24 by omega) (by decide : 24 < 2 ^ 31), cl_n (show j < 2 ^ 31 by omega)]
  split <;> rfl
theorem x_test35 {z : ST} {j : Nat} (hj : j < 24) (ha : R8 (z.2 1 j)) (hb : R8 (z.2 2 j)) : x_Run_test_35 z (nI j) = some (fTst (z.2 0 j) (z.2 23 (z.2 1 j).toNatClampNeg) (z.2 23 (z.2 2 j).toNatClampNeg), z) := by
  obtain ⟨ia, -, -, -, hair, -⟩ := R8_cl ha
  obtain ⟨ib, -, -, -, hbir, -⟩ := R8_cl hb
  simp only [x_Run_test_35, gin_n (show j < 24 by omega) (by decide : 24 < 2 ^ 31), cl_n (show j < 2 ^ 31 by omega), gin_r hair, gin_r hbir, gib_0, gib_1, fTst]
  (repeat' split) <;> rfl
theorem x_comp35 {z : ST} {j : Nat} (hj : j < 24) (ha : R8 (z.2 1 j)) (hk : z.2 0 j = 0 ∨ (isAr (z.2 0 j) ∧ R8 (z.2 2 j) ∧ R8 (z.2 3 j))) : x_Run_compute_35 z (nI j) = some (0, stA z 23 (upd (z.2 23) (z.2 1 j).toNatClampNeg (fOp (z.2 0 j) (z.2 23 (z.2 2 j).toNatClampNeg) (z.2 23 (z.2 3 j).toNatClampNeg) (z.2 3 j)))) := by
  obtain ⟨ia, -, -, -, hair, -⟩ := R8_cl ha
  rcases hk with hk | ⟨hk, hb, hc⟩
  · simp (decide := true) only [x_Run_compute_35, x_Run_compute_35_42, gin_n (show j < 24 by omega) (by decide : 24 < 2 ^ 31), cl_n (show j < 2 ^ 31 by omega), gin_r hair, bnd_s, hk, fOp, if_true]
  · obtain ⟨ib, -, -, -, hbir, -⟩ := R8_cl hb
    obtain ⟨ic, -, -, -, hcir, -⟩ := R8_cl hc
    simp only [x_Run_compute_35, x_Run_compute_35_42, x_Run_combined_35, gin_n (show j < 24 by omega) (by decide : 24 < 2 ^ 31), cl_n (show j < 2 ^ 31 by omega), gin_r hair, gin_r hbir, gin_r hcir, bnd_s]
    rcases hk with hk | hk | hk <;> simp (decide := true) only [hk, fOp, if_true, if_false, obn_s]
theorem x_behind35 {z : ST} {j : Nat} {o : Int32} (hj : j < 24) : x_Run_behind_35 z (nI j) o = some (if o = 0 then nI j + 1 else z.2 3 j, z) := by
  simp only [x_Run_behind_35, gin_n (show j < 24 by omega) (by decide : 24 < 2 ^ 31), cl_n (show j < 2 ^ 31 by omega)]
  split <;> rfl
theorem okI_br {k a b c : Int32} (h : okI k a b c) (hk : k = 6 ∨ k = 7) : R8 b ∧ ∃ i : Nat, i ≤ 24 ∧ c = nI i := by
  obtain ⟨-, ho⟩ := h
  rcases ho with h | h | ⟨h, -⟩ | ⟨h, -⟩ | ⟨h, h1, h2⟩
  · rw [h] at hk; exfalso; revert hk; decide
  · rw [h] at hk; exfalso; revert hk; decide
  · exfalso; rcases h with h | h | h <;> (rw [h] at hk; revert hk; decide)
  · exfalso; rcases h with h | h <;> (rw [h] at hk; revert hk; decide)
  · exact ⟨h1, h2⟩
theorem okI_sa {k a b c : Int32} (h : okI k a b c) (h4 : ¬ k = 4) (h5 : ¬ k = 5) (h6 : ¬ k = 6) (h7 : ¬ k = 7) (h8 : ¬ k = 8) : k = 0 ∨ (isAr k ∧ R8 b ∧ R8 c) := by
  obtain ⟨-, ho⟩ := h
  rcases ho with h | h | ⟨h, h1, h2⟩ | ⟨h, -⟩ | ⟨h, h1, h2⟩
  · exact Or.inl h
  · exact absurd h h8
  · exact Or.inr ⟨h, h1, h2⟩
  · rcases h with h | h
    · exact absurd h h4
    · exact absurd h h5
  · rcases h with h | h
    · exact absurd h h6
    · exact absurd h h7
/-- where a stream goes behind a branch -/
theorem nxt {c : Int32} {j : Nat} {o : Int32} (hj : j < 24) (hc : ∃ i : Nat, i ≤ 24 ∧ c = nI i) : ∃ a : Nat, a ≤ 24 ∧ (if o = 0 then nI j + 1 else c) = nI a := by
  split
  · exact ⟨j + 1, by omega, nI_1 j⟩
  · exact hc
/-- the address stream's own instruction that reckons -/
theorem A_comp {bd N j : Nat} {z t : ST} (h : Rel bd N z t) (hj : j < N) (h4 : ¬ t.2 0 j = 4) (h5 : ¬ t.2 0 j = 5) (h6 : ¬ t.2 0 j = 6) (h7 : ¬ t.2 0 j = 7) (h8 : ¬ t.2 0 j = 8) : ∃ z' t', x_AddressStream_doOwn_29 z (nI j) = some (1, z') ∧ m_moveAddress_236 t (nI j) (t.2 0 j) (t.2 1 j) (fOp (t.2 0 j) (t.2 5 (t.2 2 j).toNatClampNeg) (t.2 5 (t.2 3 j).toNatClampNeg) (t.2 3 j)) = some (1, t') ∧ Rel bd N z' t' ∧ t'.1 5 = t.1 5 := by
  obtain ⟨hN, -, -, ok, e0, e1, e2, e3, -⟩ := R_at h hj
  obtain ⟨ia, hia, hae, hac, hair, -⟩ := R8_cl ok.1
  have hA := (R_mb h).2.2.1
  have sa := okI_sa ok h4 h5 h6 h7 h8
  have c1 := x_comp29 (z := z) (j := j) (by omega) (by rw [e1]; exact ok.1) (by rw [e0, e2, e3]; exact sa)
  have ev : fOp (z.2 0 j) (z.2 20 (z.2 2 j).toNatClampNeg) (z.2 20 (z.2 3 j).toNatClampNeg) (z.2 3 j) = fOp (t.2 0 j) (t.2 5 (t.2 2 j).toNatClampNeg) (t.2 5 (t.2 3 j).toNatClampNeg) (t.2 3 j) := by
    rw [e0, e2, e3]
    rcases sa with s | ⟨s, b, c⟩
    · simp (decide := true) only [fOp, s, if_true]
    · obtain ⟨ib, hib, -, hbc, -⟩ := R8_cl b
      obtain ⟨ic, hic, -, hcc, -⟩ := R8_cl c
      have a1 := hA ib hib; have a2 := hA ic hic
      rw [Nat.zero_add] at a1 a2
      rw [hbc, hcc, a1, a2]
  rw [ev, e1, hac] at c1
  have r1 := R_regA (a := ia) (v := fOp (t.2 0 j) (t.2 5 (t.2 2 j).toNatClampNeg) (t.2 5 (t.2 3 j).toNatClampNeg) (t.2 3 j)) h hia
  obtain ⟨z', t', k1, k2, k3, k4⟩ := A_leave (j := j) r1 (by omega)
  refine ⟨z', t', ?_, ?_, k3, by rw [k4.2.2.1]; rfl⟩
  · simp only [x_AddressStream_doOwn_29, gin_n (show j < 24 by omega) (by decide : 24 < 2 ^ 31), cl_n (show j < 2 ^ 31 by omega), e0, if_neg h4, if_neg h5, if_neg h6, if_neg h7, c1, obn_s, k1, gib_1]
  · simp only [m_moveAddress_236, gin_r (show inR (t.2 1 j) 16 = true by rw [hae]; exact inR_n (by omega) (by decide)), hac, bnd_s, k2, obn_s, gib_1]
/-- the address stream's own branch -/
theorem A_br {bd N j : Nat} {z t : ST} (h : Rel bd N z t) (hj : j < N) (hk : t.2 0 j = 6 ∨ t.2 0 j = 7) : ∃ r z' t' n, n ≤ 4 ∧ t.2 10 2 = nI n ∧ B01 r ∧ x_AddressStream_doOwn_29 z (nI j) = some (r, z') ∧ (if n + 1 ≤ 4 then (m_moveAddress_161 t (nI j) (t.2 0 j) (fTst (t.2 0 j) (t.2 5 (t.2 1 j).toNatClampNeg) (t.2 5 (t.2 2 j).toNatClampNeg)) 2 (fTst (t.2 0 j) (t.2 5 (t.2 1 j).toNatClampNeg) (t.2 5 (t.2 2 j).toNatClampNeg))) else some (0, t)) = some (r, t') ∧ Rel bd N z' t' ∧ t'.1 5 = t.1 5 ∧ (r = 0 → z' = z) := by
  obtain ⟨hN, -, -, ok, e0, e1, e2, e3, -⟩ := R_at h hj
  obtain ⟨ia, hia, hae, hac, hair, -⟩ := R8_cl ok.1
  obtain ⟨hb, hc⟩ := okI_br ok hk
  obtain ⟨ib, hib, -, hbc, -⟩ := R8_cl hb
  have hA := (R_mb h).2.2.1
  obtain ⟨f, n, hf, hn, g1, g2, g3, g4⟩ := Rq_n2 h
  have a1 := hA ia hia; have a2 := hA ib hib
  rw [Nat.zero_add] at a1 a2
  have tst := x_test29 (z := z) (j := j) (by omega) (by rw [e1]; exact ok.1) (by rw [e2]; exact hb)
  rw [e0, e1, e2, hac, hbc, a1, a2] at tst
  have o01 := fTst_01 (k := t.2 0 j) (x := t.2 5 ia) (y := t.2 5 ib)
  have room := xq_room2 (z := z) (n := n) (m := 1) hn (by decide) g2
  rw [show nI 1 = (1 : Int32) by decide] at room
  have k4' : ¬ t.2 0 j = 4 := by rcases hk with q | q <;> (rw [q]; decide)
  have k5' : ¬ t.2 0 j = 5 := by rcases hk with q | q <;> (rw [q]; decide)
  have d52 : x_AddressStream_doOwn_29 z (nI j) = x_AddressStream_doOwn_29_52 z (nI j) := by
    simp only [x_AddressStream_doOwn_29, gin_n (show j < 24 by omega) (by decide : 24 < 2 ^ 31), cl_n (show j < 2 ^ 31 by omega), e0, if_neg k4', if_neg k5']
    rcases hk with q | q
    · rw [if_pos q]
    · rw [if_neg (by rw [q]; decide), if_pos q]
  rw [d52, hac, hbc]
  by_cases e : n + 1 ≤ 4
  · obtain ⟨z1, t1, b1, b2, b3, b4, b5⟩ := Rq_put2 (n := n) (v := fTst (t.2 0 j) (t.2 5 ia) (t.2 5 ib)) h (by omega) g2 o01
    have zc : z1.2 3 j = t1.2 3 j := by rw [b4.1 3 (by decide), b4.2.2.2.1 3 (by decide), e3]
    have tc : t1.2 3 j = t.2 3 j := by rw [b4.2.2.2.1 3 (by decide)]
    obtain ⟨na, hna, hne⟩ := nxt (o := fTst (t.2 0 j) (t.2 5 ia) (t.2 5 ib)) (c := t.2 3 j) (j := j) (by omega) hc
    obtain ⟨z', t', k1, k2, k3, k4⟩ := L_leave0 (a := na) b3 hne hna
    refine ⟨1, z', t', n, hn, g3, Or.inr rfl, ?_, ?_, k3, by rw [k4.2.2.1]; exact b5.2.2.2.2.2.2.2.2, fun h => absurd h (by decide)⟩
    · have s16 : ∀ y2 y3, y2 = fTst (t.2 0 j) (t.2 5 ia) (t.2 5 ib) → y3 = y2 → x_Stream_sendOutcome_29_17_16 z (nI j) y2 y3 = some (1, z') := by
        intro y2 y3 h1 h2
        subst h2; subst h1
        simp only [x_Stream_sendOutcome_29_17_16, b1, obn_s, x_behind29 (z := z1) (j := j) (show j < 24 by omega), zc, tc, k1, gib_1]
      simp (decide := true) only [x_AddressStream_doOwn_29_52, room, obn_s, if_pos e, if_false, x_Stream_sendOutcome_29_17, tst]
      rcases o01 with o | o
      · rw [o] at s16 ⊢
        simp (decide := true) only [if_true, s16 0 0 rfl rfl, obn_s, if_false, gib_1]
      · rw [o] at s16 ⊢
        simp (decide := true) only [if_false, s16 1 1 rfl rfl, obn_s, gib_1]
    · rw [if_pos e]
      simp only [m_moveAddress_161, b2, obn_s, m_moveAddress_182, gin_n (show j < 24 by omega) (by decide : 24 < 2 ^ 31), cl_n (show j < 2 ^ 31 by omega), tc]
      rcases o01 with o | o
      · rw [o] at k2 ⊢
        rw [if_pos rfl] at k2 ⊢
        simp only [k2, obn_s, gib_1]
      · rw [o] at k2 ⊢
        rw [if_neg (by decide)] at k2 ⊢
        simp only [k2, obn_s, gib_1]
  · refine ⟨0, z, t, n, hn, g3, Or.inl rfl, ?_, by rw [if_neg e], h, rfl, fun _ => rfl⟩
    simp (decide := true) only [x_AddressStream_doOwn_29_52, room, obn_s, if_neg e, if_true, gib_0]
