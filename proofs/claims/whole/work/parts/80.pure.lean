-- the slices joined
theorem foldP_cg {st st' : Nat → (Nat → Bool) → Nat → Bool} {S : Nat → Bool} : ∀ n, (∀ j, j < n → st j = st' j) → foldP st S n = foldP st' S n := by
  intro n
  induction n with
  | zero => intro _; rfl
  | succ n ih =>
    intro h
    show st n (foldP st S n) = st' n (foldP st' S n)
    rw [h n (by omega), ih (fun j hj => h j (by omega))]
theorem iter_cg {P P' : (Nat → Bool) → Nat → Bool} {S : Nat → Bool} (h : ∀ T, P T = P' T) : ∀ n, iter P S n = iter P' S n := by
  intro n
  have : P = P' := funext h
  rw [this]
theorem stR_at {K A B C : Nat → Int32} {j : Nat} : stR K A B C j = stR (fun _ => K j) (fun _ => A j) (fun _ => B j) (fun _ => C j) 0 := rfl
/-- the first four clauses of the relation: the program and what its slicing gives -/
def SLc (N : Nat) (z t : ST) : Prop := RP N (z.1 1) (z.2 0) (z.2 1) (z.2 2) (z.2 3) (t.1 0) (t.2 0) (t.2 1) (t.2 2) (t.2 3) ∧ MB (z.1 2) (t.2 4) ∧ (∀ q, q < 8 → B01 (t.2 4 q)) ∧ (∀ j, j < N → TB (t.2 4) z j)
theorem slices {N : Nat} {z t : ST} (h : RP N (z.1 1) (z.2 0) (z.2 1) (z.2 2) (z.2 3) (t.1 0) (t.2 0) (t.2 1) (t.2 2) (t.2 3)) : ∃ z' t', x_Program_slice_1 z = some (0, z') ∧ m_slice t = some (0, t') ∧ SLc N z' t' ∧ (∀ q, q ≠ 2 → z'.1 q = z.1 q) ∧ (∀ k, k < 4 ∨ 9 < k → z'.2 k = z.2 k) ∧ onlyA 4 t t' := by
  obtain ⟨hN, e1, e2, e3⟩ := RP_eq h
  obtain ⟨z1, f1, f2, f3⟩ := x_far_s hN e1 (fun j hj => (e3 j hj).2)
  obtain ⟨t', g1, g2, g3⟩ := m_slice_s hN e2 (fun j hj => (e3 j hj).1)
  have same : iter (fun T => foldP (stR (t.2 0) (t.2 1) (t.2 2) (t.2 3)) T N) (fun _ => false) 9 = iter (fun T => foldP (stR (z.2 0) (z.2 1) (z.2 2) (z.2 3)) T N) (fun _ => false) 9 := by
    refine iter_cg (fun T => foldP_cg N (fun j hj => ?_)) 9
    obtain ⟨c0, c1, c2, c3, -⟩ := h.2.2.2 j hj
    rw [stR_at, stR_at (K := z.2 0), c0, c1, c2, c3]
  rw [same] at g3
  have f3' : MK (z1.1 2) (iter (fun T => foldP (stR (z.2 0) (z.2 1) (z.2 2) (z.2 3)) T N) (fun _ => false) 9) := by
    obtain ⟨k, k1, k2, k3⟩ := f3
    exact ⟨k, k1, k2, fun q => by rw [k3 q]; exact two_ways (fun j hj => (e3 j hj).2) q⟩
  have mb := MK_MB f3' g3
  obtain ⟨z', l1, l2, l3⟩ := slice_loop (d := t'.2 4) hN N 0 3999 z1 (by omega) (by omega) (by rw [f2.2 1 (by decide), e1]) mb (fun j hj => by rw [f2.1]; exact (e3 j hj).2) (fun j hj => by omega)
  refine ⟨z', t', ?_, g1, ⟨?_, ?_, ?_, l3⟩, ?_, ?_, g2⟩
  · show x_Program_slice_1_g0 (x_Program_slice_1_f 3999) z 0 0 0 = _
    simp only [x_Program_slice_1_g0, f1, obn_s]
    rw [nI_0] at l1
    exact l1
  · rw [l2.1, l2.2 0 (by decide), l2.2 1 (by decide), l2.2 2 (by decide), l2.2 3 (by decide), f2.1, f2.2 1 (by decide), g2.1, g2.2 0 (by decide), g2.2 1 (by decide), g2.2 2 (by decide), g2.2 3 (by decide)]
    exact h
  · rw [l2.1]; exact mb
  · intro q hq
    rw [g3 q hq]
    split
    · exact Or.inr rfl
    · exact Or.inl rfl
  · intro q hq
    rw [l2.1, f2.2 q hq]
  · intro k hk
    rw [l2.2 k hk, f2.1]
