-- going over, one side at a time
def advN (f : Nat → Int32) (N : Nat) : Nat → Nat → Nat
  | 0, _ => 0
  | m + 1, a => if N ≤ a then 0 else if f a = 0 then 0 else advN f N m (a + 1) + 1
theorem adv_le {f : Nat → Int32} {N : Nat} (hN : N ≤ 24) : ∀ m a, a ≤ 24 → a + advN f N m a ≤ 24 := by
  intro m
  induction m with
  | zero => intro a h; exact h
  | succ m ih =>
    intro a h
    rw [advN]
    split
    · exact h
    · split
      · exact h
      · have := ih (a + 1) (by omega)
        omega
theorem adv_end {f : Nat → Int32} {N : Nat} : ∀ m a, N ≤ a + m → N ≤ a + advN f N m a ∨ f (a + advN f N m a) = 0 := by
  intro m
  induction m with
  | zero => intro a h; left; exact h
  | succ m ih =>
    intro a h
    rw [advN]
    split
    · left; omega
    · split
      · right; assumption
      · have := ih (a + 1) (by omega)
        rw [show a + (advN f N m (a + 1) + 1) = a + 1 + advN f N m (a + 1) by omega]
        exact this
theorem adv_cg {f g : Nat → Int32} {N : Nat} (h : ∀ j, j < N → f j = g j) : ∀ m a, advN f N m a = advN g N m a := by
  intro m
  induction m with
  | zero => intro a; rfl
  | succ m ih =>
    intro a
    rw [advN, advN]
    by_cases q : N ≤ a
    · rw [if_pos q, if_pos q]
    · rw [if_neg q, if_neg q, h a (by omega), ih]
theorem ov29 {N : Nat} (hN : N ≤ 24) : ∀ (m a : Nat) (z : ST), a + m = 24 → z.1 1 = nI N → z.1 15 = nI a → ∃ z', (∀ n, m + 1 ≤ n → x_Stream_goOver_29_f n 0 z = some (0, z')) ∧ z'.1 15 = nI (a + advN (z.2 8) N m a) ∧ z'.1 16 = z.1 16 + nI (advN (z.2 8) N m a) ∧ z'.2 = z.2 ∧ ∀ q, q ≠ 15 → q ≠ 16 → z'.1 q = z.1 q := by
  intro m
  induction m with
  | zero =>
    intro a z hm h1 ha
    refine ⟨z, fun n hn => ?_, ha, ?_, rfl, fun _ _ _ => rfl⟩
    · obtain ⟨n, rfl⟩ : ∃ k, n = k + 1 := ⟨n - 1, by omega⟩
      show x_Stream_goOver_29_g0 (x_Stream_goOver_29_f n) z = _
      simp only [x_Stream_goOver_29_g0, ha, h1]
      rw [if_pos (nI_le (by omega) (by omega))]
    · rw [advN, nI_0, Int32.add_zero]
  | succ m ih =>
    intro a z hm h1 ha
    by_cases hend : N ≤ a
    · refine ⟨z, fun n hn => ?_, ?_, ?_, rfl, fun _ _ _ => rfl⟩
      · obtain ⟨n, rfl⟩ : ∃ k, n = k + 1 := ⟨n - 1, by omega⟩
        show x_Stream_goOver_29_g0 (x_Stream_goOver_29_f n) z = _
        simp only [x_Stream_goOver_29_g0, ha, h1]
        rw [if_pos (nI_le (by omega) (by omega))]
      · rw [advN, if_pos hend]; exact ha
      · rw [advN, if_pos hend, nI_0, Int32.add_zero]
    · have nle : ¬ nI N ≤ nI a := nI_ge (by omega) (by omega)
      have gj : ∀ x : OR, gin (nI a) 24 x = x := fun x => gin_n (show a < 24 by omega) (by decide : 24 < 2 ^ 31)
      have cj : (nI a).toNatClampNeg = a := cl_n (show a < 2 ^ 31 by omega)
      by_cases q : z.2 8 a = 0
      · refine ⟨z, fun n hn => ?_, ?_, ?_, rfl, fun _ _ _ => rfl⟩
        · obtain ⟨n, rfl⟩ : ∃ k, n = k + 1 := ⟨n - 1, by omega⟩
          show x_Stream_goOver_29_g0 (x_Stream_goOver_29_f n) z = _
          simp only [x_Stream_goOver_29_g0, ha, h1, if_neg nle, gj, cj, if_pos q]
        · rw [advN, if_neg hend, if_pos q]; exact ha
        · rw [advN, if_neg hend, if_pos q, nI_0, Int32.add_zero]
      · obtain ⟨z', i1, i2, i3, i4, i5⟩ := ih (a + 1) (stI (stI z 15 (nI a + 1)) 16 (z.1 16 + 1)) (by omega) h1 (nI_1 a)
        refine ⟨z', fun n hn => ?_, ?_, ?_, i4, fun q h2 h3 => ?_⟩
        · obtain ⟨n, rfl⟩ : ∃ k, n = k + 1 := ⟨n - 1, by omega⟩
          show x_Stream_goOver_29_g0 (x_Stream_goOver_29_f n) z = _
          simp only [x_Stream_goOver_29_g0, ha, h1, if_neg nle, gj, cj, if_neg q, bnd_s]
          exact i1 n (by omega)
        · rw [i2, advN, if_neg hend, if_neg q]
          show nI (a + 1 + advN (z.2 8) N m (a + 1)) = _
          congr 1
          omega
        · rw [i3, advN, if_neg hend, if_neg q]
          show z.1 16 + 1 + nI (advN (z.2 8) N m (a + 1)) = _
          rw [Int32.add_assoc, show (1 : Int32) + nI (advN (z.2 8) N m (a + 1)) = nI (1 + advN (z.2 8) N m (a + 1)) from nI_add 1 _, Nat.add_comm 1]
        · rw [i5 q h2 h3, s1_n h3, s1_n h2]
theorem ov31 {N : Nat} (hN : N ≤ 24) : ∀ (m a : Nat) (z : ST), a + m = 24 → z.1 1 = nI N → z.1 18 = nI a → ∃ z', (∀ n, m + 1 ≤ n → x_Stream_goOver_31_f n 0 z = some (0, z')) ∧ z'.1 18 = nI (a + advN (z.2 9) N m a) ∧ z'.1 19 = z.1 19 + nI (advN (z.2 9) N m a) ∧ z'.2 = z.2 ∧ ∀ q, q ≠ 18 → q ≠ 19 → z'.1 q = z.1 q := by
  intro m
  induction m with
  | zero =>
    intro a z hm h1 ha
    refine ⟨z, fun n hn => ?_, ha, ?_, rfl, fun _ _ _ => rfl⟩
    · obtain ⟨n, rfl⟩ : ∃ k, n = k + 1 := ⟨n - 1, by omega⟩
      show x_Stream_goOver_31_g0 (x_Stream_goOver_31_f n) z = _
      simp only [x_Stream_goOver_31_g0, ha, h1]
      rw [if_pos (nI_le (by omega) (by omega))]
    · rw [advN, nI_0, Int32.add_zero]
  | succ m ih =>
    intro a z hm h1 ha
    by_cases hend : N ≤ a
    · refine ⟨z, fun n hn => ?_, ?_, ?_, rfl, fun _ _ _ => rfl⟩
      · obtain ⟨n, rfl⟩ : ∃ k, n = k + 1 := ⟨n - 1, by omega⟩
        show x_Stream_goOver_31_g0 (x_Stream_goOver_31_f n) z = _
        simp only [x_Stream_goOver_31_g0, ha, h1]
        rw [if_pos (nI_le (by omega) (by omega))]
      · rw [advN, if_pos hend]; exact ha
      · rw [advN, if_pos hend, nI_0, Int32.add_zero]
    · have nle : ¬ nI N ≤ nI a := nI_ge (by omega) (by omega)
      have gj : ∀ x : OR, gin (nI a) 24 x = x := fun x => gin_n (show a < 24 by omega) (by decide : 24 < 2 ^ 31)
      have cj : (nI a).toNatClampNeg = a := cl_n (show a < 2 ^ 31 by omega)
      by_cases q : z.2 9 a = 0
      · refine ⟨z, fun n hn => ?_, ?_, ?_, rfl, fun _ _ _ => rfl⟩
        · obtain ⟨n, rfl⟩ : ∃ k, n = k + 1 := ⟨n - 1, by omega⟩
          show x_Stream_goOver_31_g0 (x_Stream_goOver_31_f n) z = _
          simp only [x_Stream_goOver_31_g0, ha, h1, if_neg nle, gj, cj, if_pos q]
        · rw [advN, if_neg hend, if_pos q]; exact ha
        · rw [advN, if_neg hend, if_pos q, nI_0, Int32.add_zero]
      · obtain ⟨z', i1, i2, i3, i4, i5⟩ := ih (a + 1) (stI (stI z 18 (nI a + 1)) 19 (z.1 19 + 1)) (by omega) h1 (nI_1 a)
        refine ⟨z', fun n hn => ?_, ?_, ?_, i4, fun q h2 h3 => ?_⟩
        · obtain ⟨n, rfl⟩ : ∃ k, n = k + 1 := ⟨n - 1, by omega⟩
          show x_Stream_goOver_31_g0 (x_Stream_goOver_31_f n) z = _
          simp only [x_Stream_goOver_31_g0, ha, h1, if_neg nle, gj, cj, if_neg q, bnd_s]
          exact i1 n (by omega)
        · rw [i2, advN, if_neg hend, if_neg q]
          show nI (a + 1 + advN (z.2 9) N m (a + 1)) = _
          congr 1
          omega
        · rw [i3, advN, if_neg hend, if_neg q]
          show z.1 19 + 1 + nI (advN (z.2 9) N m (a + 1)) = _
          rw [Int32.add_assoc, show (1 : Int32) + nI (advN (z.2 9) N m (a + 1)) = nI (1 + advN (z.2 9) N m (a + 1)) from nI_add 1 _, Nat.add_comm 1]
        · rw [i5 q h2 h3, s1_n h3, s1_n h2]
theorem mov0 {N : Nat} (hN : N ≤ 24) : ∀ (m a : Nat) (t : ST), a + m = 24 → t.1 0 = nI N → (∀ j, j < N → okI (t.2 0 j) (t.2 1 j) (t.2 2 j) (t.2 3 j)) → t.2 6 0 = nI a → ∃ t', (∀ n, m + 1 ≤ n → m_goOver_f n 0 t 0 = some (0, t')) ∧ t'.2 6 0 = nI (a + advN (fun j => fN0 (t.2 0 j) (t.2 1 j) (t.2 2 j) (t.2 3 j) (t.2 4)) N m a) ∧ t'.2 7 0 = t.2 7 0 + nI (advN (fun j => fN0 (t.2 0 j) (t.2 1 j) (t.2 2 j) (t.2 3 j) (t.2 4)) N m a) ∧ t'.1 = t.1 ∧ (∀ q, q ≠ 6 → q ≠ 7 → t'.2 q = t.2 q) ∧ t'.2 6 1 = t.2 6 1 ∧ t'.2 7 1 = t.2 7 1 := by
  intro m
  have G : ∀ x : OR, gin (0 : Int32) 2 x = x := fun x => gin_r (show inR (0 : Int32) 2 = true by decide)
  have C : (0 : Int32).toNatClampNeg = 0 := by decide
  induction m with
  | zero =>
    intro a t hm h1 hok ha
    refine ⟨t, fun n hn => ?_, ha, ?_, rfl, fun _ _ _ => rfl, rfl, rfl⟩
    · obtain ⟨n, rfl⟩ : ∃ k, n = k + 1 := ⟨n - 1, by omega⟩
      show m_goOver_g0 (m_goOver_f n) t 0 = _
      simp only [m_goOver_g0, G, C, ha, h1]
      rw [if_pos (nI_le (by omega) (by omega))]
    · rw [advN, nI_0, Int32.add_zero]
  | succ m ih =>
    intro a t hm h1 hok ha
    by_cases hend : N ≤ a
    · refine ⟨t, fun n hn => ?_, ?_, ?_, rfl, fun _ _ _ => rfl, rfl, rfl⟩
      · obtain ⟨n, rfl⟩ : ∃ k, n = k + 1 := ⟨n - 1, by omega⟩
        show m_goOver_g0 (m_goOver_f n) t 0 = _
        simp only [m_goOver_g0, G, C, ha, h1]
        rw [if_pos (nI_le (by omega) (by omega))]
      · rw [advN, if_pos hend]; exact ha
      · rw [advN, if_pos hend, nI_0, Int32.add_zero]
    · have nle : ¬ nI N ≤ nI a := nI_ge (by omega) (by omega)
      have no := m_isNothing0_s (t := t) (j := a) (by omega) (hok a (by omega))
      by_cases q : fN0 (t.2 0 a) (t.2 1 a) (t.2 2 a) (t.2 3 a) (t.2 4) = 0
      · refine ⟨t, fun n hn => ?_, ?_, ?_, rfl, fun _ _ _ => rfl, rfl, rfl⟩
        · obtain ⟨n, rfl⟩ : ∃ k, n = k + 1 := ⟨n - 1, by omega⟩
          show m_goOver_g0 (m_goOver_f n) t 0 = _
          simp only [m_goOver_g0, G, C, ha, h1, if_neg nle, no, obn_s, if_pos q]
        · rw [advN, if_neg hend, if_pos q]; exact ha
        · rw [advN, if_neg hend, if_pos q, nI_0, Int32.add_zero]
      · obtain ⟨t', i1, i2, i3, i4, i5, i6, i7⟩ := ih (a + 1) (stA (stA t 6 (upd (t.2 6) 0 (nI a + 1))) 7 (upd (t.2 7) 0 (t.2 7 0 + 1))) (by omega) h1 hok (by
          show upd (t.2 6) 0 (nI a + 1) 0 = _
          rw [upd, if_pos rfl]; exact nI_1 a)
        refine ⟨t', fun n hn => ?_, ?_, ?_, i4, fun q h2 h3 => ?_, i6, i7⟩
        · obtain ⟨n, rfl⟩ : ∃ k, n = k + 1 := ⟨n - 1, by omega⟩
          show m_goOver_g0 (m_goOver_f n) t 0 = _
          simp only [m_goOver_g0, G, C, ha, h1, if_neg nle, no, obn_s, if_neg q, bnd_s]
          exact i1 n (by omega)
        · rw [i2, advN, if_neg hend, if_neg q]
          show nI (a + 1 + advN (fun j => fN0 (t.2 0 j) (t.2 1 j) (t.2 2 j) (t.2 3 j) (t.2 4)) N m (a + 1)) = _
          congr 1
          omega
        · rw [i3, advN, if_neg hend, if_neg q]
          show upd (t.2 7) 0 (t.2 7 0 + 1) 0 + nI (advN (fun j => fN0 (t.2 0 j) (t.2 1 j) (t.2 2 j) (t.2 3 j) (t.2 4)) N m (a + 1)) = _
          rw [upd, if_pos rfl, Int32.add_assoc, show (1 : Int32) + nI (advN (fun j => fN0 (t.2 0 j) (t.2 1 j) (t.2 2 j) (t.2 3 j) (t.2 4)) N m (a + 1)) = nI (1 + advN (fun j => fN0 (t.2 0 j) (t.2 1 j) (t.2 2 j) (t.2 3 j) (t.2 4)) N m (a + 1)) from nI_add 1 _, Nat.add_comm 1]
        · rw [i5 q h2 h3, s2_n h3, s2_n h2]
theorem mov1 {N : Nat} (hN : N ≤ 24) : ∀ (m a : Nat) (t : ST), a + m = 24 → t.1 0 = nI N → (∀ j, j < N → okI (t.2 0 j) (t.2 1 j) (t.2 2 j) (t.2 3 j)) → t.2 6 1 = nI a → ∃ t', (∀ n, m + 1 ≤ n → m_goOver_f n 0 t 1 = some (0, t')) ∧ t'.2 6 1 = nI (a + advN (fun j => fN1 (t.2 0 j) (t.2 1 j) (t.2 2 j) (t.2 4)) N m a) ∧ t'.2 7 1 = t.2 7 1 + nI (advN (fun j => fN1 (t.2 0 j) (t.2 1 j) (t.2 2 j) (t.2 4)) N m a) ∧ t'.1 = t.1 ∧ (∀ q, q ≠ 6 → q ≠ 7 → t'.2 q = t.2 q) ∧ t'.2 6 0 = t.2 6 0 ∧ t'.2 7 0 = t.2 7 0 := by
  intro m
  have G : ∀ x : OR, gin (1 : Int32) 2 x = x := fun x => gin_r (show inR (1 : Int32) 2 = true by decide)
  have C : (1 : Int32).toNatClampNeg = 1 := by decide
  induction m with
  | zero =>
    intro a t hm h1 hok ha
    refine ⟨t, fun n hn => ?_, ha, ?_, rfl, fun _ _ _ => rfl, rfl, rfl⟩
    · obtain ⟨n, rfl⟩ : ∃ k, n = k + 1 := ⟨n - 1, by omega⟩
      show m_goOver_g0 (m_goOver_f n) t 1 = _
      simp only [m_goOver_g0, G, C, ha, h1]
      rw [if_pos (nI_le (by omega) (by omega))]
    · rw [advN, nI_0, Int32.add_zero]
  | succ m ih =>
    intro a t hm h1 hok ha
    by_cases hend : N ≤ a
    · refine ⟨t, fun n hn => ?_, ?_, ?_, rfl, fun _ _ _ => rfl, rfl, rfl⟩
      · obtain ⟨n, rfl⟩ : ∃ k, n = k + 1 := ⟨n - 1, by omega⟩
        show m_goOver_g0 (m_goOver_f n) t 1 = _
        simp only [m_goOver_g0, G, C, ha, h1]
        rw [if_pos (nI_le (by omega) (by omega))]
      · rw [advN, if_pos hend]; exact ha
      · rw [advN, if_pos hend, nI_0, Int32.add_zero]
    · have nle : ¬ nI N ≤ nI a := nI_ge (by omega) (by omega)
      have no := m_isNothing1_s (t := t) (j := a) (by omega) (hok a (by omega))
      by_cases q : fN1 (t.2 0 a) (t.2 1 a) (t.2 2 a) (t.2 4) = 0
      · refine ⟨t, fun n hn => ?_, ?_, ?_, rfl, fun _ _ _ => rfl, rfl, rfl⟩
        · obtain ⟨n, rfl⟩ : ∃ k, n = k + 1 := ⟨n - 1, by omega⟩
          show m_goOver_g0 (m_goOver_f n) t 1 = _
          simp only [m_goOver_g0, G, C, ha, h1, if_neg nle, no, obn_s, if_pos q]
        · rw [advN, if_neg hend, if_pos q]; exact ha
        · rw [advN, if_neg hend, if_pos q, nI_0, Int32.add_zero]
      · obtain ⟨t', i1, i2, i3, i4, i5, i6, i7⟩ := ih (a + 1) (stA (stA t 6 (upd (t.2 6) 1 (nI a + 1))) 7 (upd (t.2 7) 1 (t.2 7 1 + 1))) (by omega) h1 hok (by
          show upd (t.2 6) 1 (nI a + 1) 1 = _
          rw [upd, if_pos rfl]; exact nI_1 a)
        refine ⟨t', fun n hn => ?_, ?_, ?_, i4, fun q h2 h3 => ?_, i6, i7⟩
        · obtain ⟨n, rfl⟩ : ∃ k, n = k + 1 := ⟨n - 1, by omega⟩
          show m_goOver_g0 (m_goOver_f n) t 1 = _
          simp only [m_goOver_g0, G, C, ha, h1, if_neg nle, no, obn_s, if_neg q, bnd_s]
          exact i1 n (by omega)
        · rw [i2, advN, if_neg hend, if_neg q]
          show nI (a + 1 + advN (fun j => fN1 (t.2 0 j) (t.2 1 j) (t.2 2 j) (t.2 4)) N m (a + 1)) = _
          congr 1
          omega
        · rw [i3, advN, if_neg hend, if_neg q]
          show upd (t.2 7) 1 (t.2 7 1 + 1) 1 + nI (advN (fun j => fN1 (t.2 0 j) (t.2 1 j) (t.2 2 j) (t.2 4)) N m (a + 1)) = _
          rw [upd, if_pos rfl, Int32.add_assoc, show (1 : Int32) + nI (advN (fun j => fN1 (t.2 0 j) (t.2 1 j) (t.2 2 j) (t.2 4)) N m (a + 1)) = nI (1 + advN (fun j => fN1 (t.2 0 j) (t.2 1 j) (t.2 2 j) (t.2 4)) N m (a + 1)) from nI_add 1 _, Nat.add_comm 1]
        · rw [i5 q h2 h3, s2_n h3, s2_n h2]
theorem fl30 : ∀ (m i : Nat) (z : ST), i + m = 8 → (∀ q, q < i → z.2 20 q = 0) → ∃ z', (∀ n, m + 1 ≤ n → x_Arrays_fill_30_f n 1 z 0 (nI i) 8 = some (0, z')) ∧ onlyA 20 z z' ∧ ∀ q, q < 8 → z'.2 20 q = 0 := by
  intro m
  induction m with
  | zero =>
    intro i z hm h
    refine ⟨z, fun n hn => ?_, onlyA.rf, fun q hq => h q (by omega)⟩
    obtain ⟨n, rfl⟩ : ∃ k, n = k + 1 := ⟨n - 1, by omega⟩
    show x_Arrays_fill_30_g5 (x_Arrays_fill_30_f n) z 0 (nI i) 8 = _
    rw [x_Arrays_fill_30_g5, if_pos (show (8 : Int32) ≤ nI i from nI_le (a := 8) (by omega) (by omega))]
  | succ m ih =>
    intro i z hm h
    obtain ⟨z', i1, i2, i3⟩ := ih (i + 1) (stA z 20 (upd (z.2 20) i 0)) (by omega) (fun q hq => by
      rw [s2_e, upd]
      split
      · rfl
      · exact h q (by omega))
    refine ⟨z', fun n hn => ?_, onlyA.tr onlyA.st i2, i3⟩
    obtain ⟨n, rfl⟩ : ∃ k, n = k + 1 := ⟨n - 1, by omega⟩
    show x_Arrays_fill_30_g5 (x_Arrays_fill_30_f n) z 0 (nI i) 8 = _
    rw [x_Arrays_fill_30_g5, if_neg (show ¬ (8 : Int32) ≤ nI i from nI_ge (b := 8) (by omega) (by omega)), gin_n (show i < 8 by omega) (by decide), cl_n (show i < 2 ^ 31 by omega), bnd_s, nI_1]
    exact i1 n (by omega)
theorem fil30 (z : ST) : ∃ z', x_Arrays_fill_30 z 0 = some (0, z') ∧ onlyA 20 z z' ∧ ∀ q, q < 8 → z'.2 20 q = 0 := by
  obtain ⟨z', i1, i2, i3⟩ := fl30 8 0 z (by omega) (fun q hq => by omega)
  refine ⟨z', ?_, i2, i3⟩
  show x_Arrays_fill_30_g0 (x_Arrays_fill_30_f 3999) z 0 0 0 = _
  simp only [x_Arrays_fill_30_g0]
  have := i1 3999 (by omega)
  rw [nI_0] at this
  exact this
theorem fl32 : ∀ (m i : Nat) (z : ST), i + m = 8 → (∀ q, q < i → z.2 21 q = 0) → ∃ z', (∀ n, m + 1 ≤ n → x_Arrays_fill_32_f n 1 z 0 (nI i) 8 = some (0, z')) ∧ onlyA 21 z z' ∧ ∀ q, q < 8 → z'.2 21 q = 0 := by
  intro m
  induction m with
  | zero =>
    intro i z hm h
    refine ⟨z, fun n hn => ?_, onlyA.rf, fun q hq => h q (by omega)⟩
    obtain ⟨n, rfl⟩ : ∃ k, n = k + 1 := ⟨n - 1, by omega⟩
    show x_Arrays_fill_32_g5 (x_Arrays_fill_32_f n) z 0 (nI i) 8 = _
    rw [x_Arrays_fill_32_g5, if_pos (show (8 : Int32) ≤ nI i from nI_le (a := 8) (by omega) (by omega))]
  | succ m ih =>
    intro i z hm h
    obtain ⟨z', i1, i2, i3⟩ := ih (i + 1) (stA z 21 (upd (z.2 21) i 0)) (by omega) (fun q hq => by
      rw [s2_e, upd]
      split
      · rfl
      · exact h q (by omega))
    refine ⟨z', fun n hn => ?_, onlyA.tr onlyA.st i2, i3⟩
    obtain ⟨n, rfl⟩ : ∃ k, n = k + 1 := ⟨n - 1, by omega⟩
    show x_Arrays_fill_32_g5 (x_Arrays_fill_32_f n) z 0 (nI i) 8 = _
    rw [x_Arrays_fill_32_g5, if_neg (show ¬ (8 : Int32) ≤ nI i from nI_ge (b := 8) (by omega) (by omega)), gin_n (show i < 8 by omega) (by decide), cl_n (show i < 2 ^ 31 by omega), bnd_s, nI_1]
    exact i1 n (by omega)
theorem fil32 (z : ST) : ∃ z', x_Arrays_fill_32 z 0 = some (0, z') ∧ onlyA 21 z z' ∧ ∀ q, q < 8 → z'.2 21 q = 0 := by
  obtain ⟨z', i1, i2, i3⟩ := fl32 8 0 z (by omega) (fun q hq => by omega)
  refine ⟨z', ?_, i2, i3⟩
  show x_Arrays_fill_32_g0 (x_Arrays_fill_32_f 3999) z 0 0 0 = _
  simp only [x_Arrays_fill_32_g0]
  have := i1 3999 (by omega)
  rw [nI_0] at this
  exact this
theorem fl36 : ∀ (m i : Nat) (z : ST), i + m = 8 → (∀ q, q < i → z.2 23 q = 0) → ∃ z', (∀ n, m + 1 ≤ n → x_Arrays_fill_36_f n 1 z 0 (nI i) 8 = some (0, z')) ∧ onlyA 23 z z' ∧ ∀ q, q < 8 → z'.2 23 q = 0 := by
  intro m
  induction m with
  | zero =>
    intro i z hm h
    refine ⟨z, fun n hn => ?_, onlyA.rf, fun q hq => h q (by omega)⟩
    obtain ⟨n, rfl⟩ : ∃ k, n = k + 1 := ⟨n - 1, by omega⟩
    show x_Arrays_fill_36_g5 (x_Arrays_fill_36_f n) z 0 (nI i) 8 = _
    rw [x_Arrays_fill_36_g5, if_pos (show (8 : Int32) ≤ nI i from nI_le (a := 8) (by omega) (by omega))]
  | succ m ih =>
    intro i z hm h
    obtain ⟨z', i1, i2, i3⟩ := ih (i + 1) (stA z 23 (upd (z.2 23) i 0)) (by omega) (fun q hq => by
      rw [s2_e, upd]
      split
      · rfl
      · exact h q (by omega))
    refine ⟨z', fun n hn => ?_, onlyA.tr onlyA.st i2, i3⟩
    obtain ⟨n, rfl⟩ : ∃ k, n = k + 1 := ⟨n - 1, by omega⟩
    show x_Arrays_fill_36_g5 (x_Arrays_fill_36_f n) z 0 (nI i) 8 = _
    rw [x_Arrays_fill_36_g5, if_neg (show ¬ (8 : Int32) ≤ nI i from nI_ge (b := 8) (by omega) (by omega)), gin_n (show i < 8 by omega) (by decide), cl_n (show i < 2 ^ 31 by omega), bnd_s, nI_1]
    exact i1 n (by omega)
theorem fil36 (z : ST) : ∃ z', x_Arrays_fill_36 z 0 = some (0, z') ∧ onlyA 23 z z' ∧ ∀ q, q < 8 → z'.2 23 q = 0 := by
  obtain ⟨z', i1, i2, i3⟩ := fl36 8 0 z (by omega) (fun q hq => by omega)
  refine ⟨z', ?_, i2, i3⟩
  show x_Arrays_fill_36_g0 (x_Arrays_fill_36_f 3999) z 0 0 0 = _
  simp only [x_Arrays_fill_36_g0]
  have := i1 3999 (by omega)
  rw [nI_0] at this
  exact this
