/-- the tables of instruction j are right -/
def TB (d : Nat → Int32) (z : ST) (j : Nat) : Prop := z.2 4 j = fBel (z.2 0 j) (z.2 1 j) (z.2 2 j) d ∧ z.2 5 j = fP1 (z.2 0 j) (z.2 1 j) (z.2 2 j) d ∧ z.2 6 j = fP2 (z.2 0 j) (z.2 1 j) (z.2 2 j) (z.2 3 j) d ∧ z.2 7 j = fPc (z.2 0 j) (z.2 1 j) (z.2 2 j) (z.2 3 j) d ∧ z.2 8 j = fN0 (z.2 0 j) (z.2 1 j) (z.2 2 j) (z.2 3 j) d ∧ z.2 9 j = fN1 (z.2 0 j) (z.2 1 j) (z.2 2 j) d
/-- nothing but the tables differs -/
def SB (z0 z : ST) : Prop := z.1 = z0.1 ∧ ∀ k, k < 4 ∨ 9 < k → z.2 k = z0.2 k
theorem slice_step {z : ST} {d : Nat → Int32} {j : Nat} (hj : j < 24) (hm : MB (z.1 2) d) (ho : okI (z.2 0 j) (z.2 1 j) (z.2 2 j) (z.2 3 j)) (k : Nat → ST → Int32 → Int32 → Int32 → OR) :
    ∃ z', x_Program_slice_1_g32 k z (nI j) (nI j) (fBel (z.2 0 j) (z.2 1 j) (z.2 2 j) d) = k 1 z' (nI (j + 1)) 0 0 ∧ SB z z' ∧ TB d z' j ∧ ∀ i, i ≠ j → ∀ q, z'.2 q i = z.2 q i := by
  simp only [x_Program_slice_1_g32, gin_n hj (by decide : 24 < 2 ^ 31), cl_n (show j < 2 ^ 31 by omega), bnd_s]
  generalize hz1 : stA z 4 (upd (z.2 4) j (fBel (z.2 0 j) (z.2 1 j) (z.2 2 j) d)) = z1
  have a1 : z1.1 = z.1 := by rw [← hz1]; rfl
  have a0 : z1.2 0 = z.2 0 ∧ z1.2 1 = z.2 1 ∧ z1.2 2 = z.2 2 ∧ z1.2 3 = z.2 3 := by rw [← hz1]; exact ⟨rfl, rfl, rfl, rfl⟩
  have a4 : z1.2 4 j = fBel (z1.2 0 j) (z1.2 1 j) (z1.2 2 j) d := by rw [a0.1, a0.2.1, a0.2.2.1, ← hz1]; simp [stA, upd]
  have ho1 : okI (z1.2 0 j) (z1.2 1 j) (z1.2 2 j) (z1.2 3 j) := by rw [a0.1, a0.2.1, a0.2.2.1, a0.2.2.2]; exact ho
  have hm1 : MB (z1.1 2) d := by rw [a1]; exact hm
  rw [x_findPassed_s hj hm1 ho1 a4, obn_s]
  generalize hz2 : stA (stA (stA z1 5 (upd (z1.2 5) j (fP1 (z1.2 0 j) (z1.2 1 j) (z1.2 2 j) d))) 6 (upd (z1.2 6) j (fP2 (z1.2 0 j) (z1.2 1 j) (z1.2 2 j) (z1.2 3 j) d))) 7 (upd (z1.2 7) j (fPc (z1.2 0 j) (z1.2 1 j) (z1.2 2 j) (z1.2 3 j) d)) = z2
  have b1 : z2.1 = z1.1 := by rw [← hz2]; rfl
  have b0 : z2.2 0 = z1.2 0 ∧ z2.2 1 = z1.2 1 ∧ z2.2 2 = z1.2 2 ∧ z2.2 3 = z1.2 3 ∧ z2.2 4 = z1.2 4 := by rw [← hz2]; exact ⟨rfl, rfl, rfl, rfl, rfl⟩
  have b5 : z2.2 5 j = fP1 (z1.2 0 j) (z1.2 1 j) (z1.2 2 j) d ∧ z2.2 6 j = fP2 (z1.2 0 j) (z1.2 1 j) (z1.2 2 j) (z1.2 3 j) d ∧ z2.2 7 j = fPc (z1.2 0 j) (z1.2 1 j) (z1.2 2 j) (z1.2 3 j) d := by rw [← hz2]; simp [stA, upd]
  have ho2 : okI (z2.2 0 j) (z2.2 1 j) (z2.2 2 j) (z2.2 3 j) := by rw [b0.1, b0.2.1, b0.2.2.1, b0.2.2.2.1]; exact ho1
  have hm2 : MB (z2.1 2) d := by rw [b1]; exact hm1
  have b4 : z2.2 4 j = fBel (z2.2 0 j) (z2.2 1 j) (z2.2 2 j) d := by rw [b0.1, b0.2.1, b0.2.2.1, b0.2.2.2.2]; exact a4
  have b7 : z2.2 7 j = fPc (z2.2 0 j) (z2.2 1 j) (z2.2 2 j) (z2.2 3 j) d := by rw [b5.2.2, b0.1, b0.2.1, b0.2.2.1, b0.2.2.2.1]
  rw [x_findNothings_s hj hm2 ho2 b4 b7, obn_s, nI_1]
  refine ⟨_, rfl, ⟨?_, fun k hk => ?_⟩, ?_, fun i hi q => ?_⟩
  · show z2.1 = z.1
    rw [b1, a1]
  · have e : ∀ (w : ST) (m : Nat) (g : Nat → Int32), (k < 4 ∨ 9 < k) → (4 ≤ m ∧ m ≤ 9) → (stA w m g).2 k = w.2 k := fun w m g h1 h2 => s2_n (by omega)
    rw [e _ _ _ hk (by omega), e _ _ _ hk (by omega), ← hz2, e _ _ _ hk (by omega), e _ _ _ hk (by omega), e _ _ _ hk (by omega), ← hz1, e _ _ _ hk (by omega)]
  · refine ⟨?_, ?_, ?_, ?_, ?_, ?_⟩
    · exact b4
    · show z2.2 5 j = _; rw [b5.1, ← b0.1, ← b0.2.1, ← b0.2.2.1]; rfl
    · show z2.2 6 j = _; rw [b5.2.1, ← b0.1, ← b0.2.1, ← b0.2.2.1, ← b0.2.2.2.1]; rfl
    · exact b7
    · simp [stA, upd]
    · simp [stA, upd]
  · have e' : ∀ (w : ST) (m : Nat) (v : Int32), (stA w m (upd (w.2 m) j v)).2 q i = w.2 q i := by
      intro w m v
      by_cases h : q = m
      · subst h; simp [stA, upd, hi]
      · simp [stA, h]
    have h2 : z2.2 q i = z1.2 q i := by
      rw [← hz2]
      exact (e' (stA (stA z1 5 _) 6 _) 7 _).trans ((e' (stA z1 5 _) 6 _).trans (e' z1 5 _))
    have h1 : z1.2 q i = z.2 q i := by
      rw [← hz1]
      exact e' z 4 _
    exact (e' (stA z2 8 _) 9 _).trans ((e' z2 8 _).trans (h2.trans h1))
theorem slice_loop {d : Nat → Int32} {N : Nat} (hN : N ≤ 24) : ∀ (m i n : Nat) (z : ST), i + m = N → 2 * m + 1 ≤ n → z.1 1 = nI N → MB (z.1 2) d → (∀ j, j < N → okI (z.2 0 j) (z.2 1 j) (z.2 2 j) (z.2 3 j)) → (∀ j, j < i → TB d z j) →
    ∃ z', x_Program_slice_1_f n 1 z (nI i) 0 0 = some (0, z') ∧ SB z z' ∧ ∀ j, j < N → TB d z' j := by
  intro m
  induction m with
  | zero =>
    intro i n z hi hn h1 hm ho ht
    obtain ⟨n, rfl⟩ : ∃ k, n = k + 1 := ⟨n - 1, by omega⟩
    refine ⟨z, ?_, ⟨rfl, fun _ _ => rfl⟩, fun j hj => ht j (by omega)⟩
    show x_Program_slice_1_g6 _ z (nI i) 0 0 = _
    simp only [x_Program_slice_1_g6, h1]
    rw [if_pos (nI_le (by omega) (by omega))]
  | succ m ih =>
    intro i n z hi hn h1 hm ho ht
    obtain ⟨n, rfl⟩ : ∃ k, n = k + 2 := ⟨n - 2, by omega⟩
    obtain ⟨z', e1, ⟨e2, e3⟩, e4, e5⟩ := slice_step (z := z) (d := d) (j := i) (by omega) hm (ho i (by omega)) (x_Program_slice_1_f n)
    have keep : ∀ q, q < 4 → z'.2 q = z.2 q := fun q hq => e3 q (Or.inl hq)
    obtain ⟨z'', f1, ⟨f2, f3⟩, f4⟩ := ih (i + 1) n z' (by omega) (by omega) (by rw [e2]; exact h1) (by rw [e2]; exact hm) (fun j hj => by rw [keep 0 (by omega), keep 1 (by omega), keep 2 (by omega), keep 3 (by omega)]; exact ho j hj) (fun j hj => by
      by_cases hji : j = i
      · rw [hji]; exact e4
      · have h := ht j (by omega)
        unfold TB at h ⊢
        rw [e5 j hji, e5 j hji, e5 j hji, e5 j hji, e5 j hji, e5 j hji, e5 j hji, e5 j hji, e5 j hji, e5 j hji]
        exact h)
    refine ⟨z'', ?_, ⟨f2.trans e2, fun k hk => (f3 k hk).trans (e3 k hk)⟩, f4⟩
    rw [← f1, ← e1]
    show x_Program_slice_1_g6 _ z (nI i) 0 0 = _
    simp only [x_Program_slice_1_g6, h1]
    rw [if_neg (nI_ge (by omega) (by omega)), x_belongs_s (by omega) hm (ho i (by omega)), obn_s]
    rcases fBel_01 (k := z.2 0 i) (a := z.2 1 i) (b := z.2 2 i) (d := d) with hb | hb
    all_goals simp (decide := true) only [hb, if_true, if_false]
    all_goals rfl
