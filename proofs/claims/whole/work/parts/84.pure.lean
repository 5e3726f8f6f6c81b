-- both sides begin anew
def FL (z t : ST) : Prop := ∀ j, j < 32 → z.2 10 j = t.1 1 + nI j * t.1 2
theorem begin_join {N : Nat} {z t : ST} (h : SLc N z t) (hf : FL z t) : ∃ z' t', x_beginAnew z = some (0, z') ∧ m_reset t = some (0, t') ∧ Rel 0 N z' t' ∧ t'.1 0 = t.1 0 := by
  obtain ⟨hP0, hM0, hD0, hT0⟩ := h
  obtain ⟨hN, e1, e2, e3⟩ := RP_eq hP0
  obtain ⟨z', x0, x1, x2, x3, x4, x5, x6, x7, x8, x9, x10, x11, x12, x13, x14, x15, x16, x17, x18⟩ := x_begin hN e1
  obtain ⟨t', m0, m1, m2, m3, m4, m5, m6, m7, m8, m9, m10, m11, m12, m13, m14, m15, m16, m17⟩ := m_rst hN e2 (fun j hj => (e3 j hj).1)
  have c0 : advN (z.2 8) N 24 0 = advN (fun j => fN0 (t.2 0 j) (t.2 1 j) (t.2 2 j) (t.2 3 j) (t.2 4)) N 24 0 := by
    refine adv_cg (fun j hj => ?_) 24 0
    obtain ⟨p0, p1, p2, p3, -⟩ := hP0.2.2.2 j hj
    rw [(hT0 j hj).2.2.2.2.1, p0, p1, p2, p3]
  have c1 : advN (z.2 9) N 24 0 = advN (fun j => fN1 (t.2 0 j) (t.2 1 j) (t.2 2 j) (t.2 4)) N 24 0 := by
    refine adv_cg (fun j hj => ?_) 24 0
    obtain ⟨p0, p1, p2, p3, -⟩ := hP0.2.2.2 j hj
    rw [(hT0 j hj).2.2.2.2.2, p0, p1, p2]
  have l0 := adv_le (f := (fun j => fN0 (t.2 0 j) (t.2 1 j) (t.2 2 j) (t.2 3 j) (t.2 4))) hN 24 0 (by omega)
  have l1 := adv_le (f := (fun j => fN1 (t.2 0 j) (t.2 1 j) (t.2 2 j) (t.2 4))) hN 24 0 (by omega)
  have en := adv_end (f := (fun j => fN1 (t.2 0 j) (t.2 1 j) (t.2 2 j) (t.2 4))) (N := N) 24 0 (by omega)
  rw [Nat.zero_add] at l0 l1 en
  rw [c0] at x5 x6
  rw [c1] at x8 x9
  have tb : ∀ j, j < N → TB (t'.2 4) z' j := by
    intro j hj
    have := hT0 j hj
    unfold TB at this ⊢
    rw [x13 0 (by omega), x13 1 (by omega), x13 2 (by omega), x13 3 (by omega), x13 4 (by omega), x13 5 (by omega), x13 6 (by omega), x13 7 (by omega), x13 8 (by omega), x13 9 (by omega), m8 4 (by omega)]
    exact this
  have qz : ∀ (P : Int32 → Prop) (c : Nat) (F S l : Int32) (a row : Nat → Int32), 0 < c → F = 0 → S = 0 → l = 0 → RQ P c F S a l row := by
    intro P c F S l a row hc hF hS hl
    exact ⟨0, 0, hc, by omega, by rw [hF, nI_0], by rw [hS, nI_0], by rw [hl, nI_0], fun j hj => by omega⟩
  have rw0 : ∀ (o : Nat) (x y : Int32) (f g : Nat → Int32), x = 0 → y = 0 → RW 0 o x y f g := by
    intro o x y f g hx hy
    exact ⟨0, by omega, by rw [hx, nI_0], by rw [hy, nI_0], fun j hj => by omega⟩
  refine ⟨z', t', x0, m0, ⟨?_, ?_, ?_, tb, ?_, ?_, ?_, ?_, ?_, ?_, ?_, ?_, ?_, ?_, ?_, ?_, ?_, ?_, ?_, ?_, ?_, ?_, ?_, ?_, ?_⟩, m1 0 (by omega)⟩
  · rw [x2, m1 0 (by omega), x13 0 (by omega), x13 1 (by omega), x13 2 (by omega), x13 3 (by omega), m8 0 (by omega), m8 1 (by omega), m8 2 (by omega), m8 3 (by omega)]
    exact hP0
  · rw [x3, m8 4 (by omega)]
    exact hM0
  · rw [m8 4 (by omega)]
    exact hD0
  · intro j hj
    rw [x13 10 (by omega), m1 1 (by omega), m1 2 (by omega)]
    exact hf j hj
  · intro j hj
    rw [Nat.zero_add, x14 j hj, m11 j hj]
    exact hf j hj
  · exact qz _ _ _ _ _ _ _ (by omega) (x4 3 (by omega) (by omega)) (x4 4 (by omega) (by omega)) (m13 0 (by omega))
  · exact qz _ _ _ _ _ _ _ (by omega) (x4 5 (by omega) (by omega)) (x4 6 (by omega) (by omega)) (m13 1 (by omega))
  · exact qz _ _ _ _ _ _ _ (by omega) (x4 7 (by omega) (by omega)) (x4 8 (by omega) (by omega)) (m13 2 (by omega))
  · exact qz _ _ _ _ _ _ _ (by omega) (x4 9 (by omega) (by omega)) (x4 10 (by omega) (by omega)) (m13 3 (by omega))
  · exact qz _ _ _ _ _ _ _ (by omega) (x4 11 (by omega) (by omega)) (x4 12 (by omega) (by omega)) (m13 4 (by omega))
  · exact ⟨0, 0, by omega, by omega, by rw [x4 13 (by omega) (by omega), nI_0], by rw [x4 14 (by omega) (by omega), nI_0], by rw [m4, nI_0], fun j hj => by omega, fun _ hj => by omega⟩
  · intro j hj
    rw [Nat.zero_add, x15 j hj, m9 j (by omega)]
  · intro j hj _
    rw [x16 j hj, m9 (8 + j) (by omega)]
  · exact ⟨_, l0, x5, m14⟩
  · refine ⟨⟨_, l1, x8, m16⟩, fun _ j hj he => ?_⟩
    rw [m16] at he
    have ej := (nI_eq (by omega) (by omega)).mp he
    rw [ej] at en
    rw [m8 0 (by omega), m8 1 (by omega), m8 2 (by omega), m8 4 (by omega)]
    rcases en with q | q
    · omega
    · exact q
  · rw [x6, m15]
  · rw [x9, m17]
  · intro _
    rw [x7, m2]
    exact ⟨rfl, Or.inl rfl⟩
  · rw [x1, m3]
  · exact rw0 _ _ _ _ _ x10 m6
  · intro j hj
    rw [Nat.zero_add, x17 j hj, m10 j hj]
  · intro j hj
    rw [Nat.zero_add, x18 j hj, m12 j hj]
    exact hf j hj
  · exact ⟨0, by omega, by rw [x11, nI_0], by rw [m5, nI_0]⟩
  · exact rw0 _ _ _ _ _ x12 m7
theorem R_SL {bd N : Nat} {z t : ST} (h : Rel bd N z t) : SLc N z t ∧ FL z t := by
  obtain ⟨hP, hM, hD, hT, hF, hme, q0, q1, q2, q3, q4, hS, hA, hV, ha, hb, la, lb, hs, hl, hW, pr, pm, pa, pw⟩ := h
  exact ⟨⟨hP, hM, hD, hT⟩, hF⟩
/-- reset -/
theorem callR {bd N : Nat} {z t : ST} (h : Rel bd N z t) : ∃ r z' t', x_reset z = some (r, z') ∧ m_reset t = some (r, t') ∧ Rel bd N z' t' := by
  obtain ⟨a, b⟩ := R_SL h
  obtain ⟨z', t', h1, h2, h3, -⟩ := begin_join a b
  refine ⟨0, z', t', ?_, h2, R_monoN h3 (by omega)⟩
  simp only [x_reset, h1, obn_s]
/-- clear -/
theorem callC {bd N : Nat} {z t : ST} (h : Rel bd N z t) : ∃ r z' t', x_clear z = some (r, z') ∧ m_clear t = some (r, t') ∧ Rel bd 0 z' t' := by
  obtain ⟨a, b⟩ := R_SL h
  have e1 : z.1 1 = t.1 0 := by rw [a.1.2.1, a.1.2.2.1]
  have rp : RP 0 ((stI z 1 0).1 1) (z.2 0) (z.2 1) (z.2 2) (z.2 3) ((stI t 0 0).1 0) (t.2 0) (t.2 1) (t.2 2) (t.2 3) := ⟨by omega, by rw [s1_e, nI_0], by rw [s1_e, nI_0], fun j hj => by omega⟩
  obtain ⟨z1, t1, s1, s2, s3, s4, s5, s6⟩ := slices (z := stI z 1 0) (t := stI t 0 0) rp
  have fl : FL z1 t1 := by
    intro j hj
    rw [s5 10 (by omega), s6.1]
    exact b j hj
  obtain ⟨z', t', h1, h2, h3, -⟩ := begin_join s3 fl
  refine ⟨z.1 1, z', t', ?_, ?_, R_monoN h3 (by omega)⟩
  · simp only [x_clear, x_Program_removeAll_1, bnd_s, s1, obn_s, h1]
  · simp only [m_clear, bnd_s, s2, obn_s, h2, e1]
/-- the words of fill -/
theorem x_fl {y1 y2 : Int32} : ∀ (m i : Nat) (z : ST), i + m = 32 → (∀ q, q < i → z.2 10 q = y1 + nI q * y2) → ∃ z', (∀ n, x_fill_f (n + (m + 1)) 1 z y1 y2 (nI i) = obn (x_beginAnew z') (fun _ z1 => some (0, z1))) ∧ onlyA 10 z z' ∧ ∀ q, q < 32 → z'.2 10 q = y1 + nI q * y2 := by
  intro m
  induction m with
  | zero =>
    intro i z hm h
    refine ⟨z, fun n => ?_, onlyA.rf, fun q hq => h q (by omega)⟩
    rw [show n + (0 + 1) = n + 1 by omega]
    show x_fill_g2 (x_fill_f n) z y1 y2 (nI i) = _
    rw [x_fill_g2, if_pos (show (32 : Int32) ≤ nI i from nI_le (a := 32) (by omega) (by omega))]
  | succ m ih =>
    intro i z hm h
    obtain ⟨z', i1, i2, i3⟩ := ih (i + 1) (stA z 10 (upd (z.2 10) i (y1 + nI i * y2))) (by omega) (fun q hq => by
      rw [s2_e, upd]
      split
      · next e => rw [e]
      · exact h q (by omega))
    refine ⟨z', fun n => ?_, onlyA.tr onlyA.st i2, i3⟩
    rw [show n + (m + 1 + 1) = n + (m + 1) + 1 by omega]
    show x_fill_g2 (x_fill_f (n + (m + 1))) z y1 y2 (nI i) = _
    rw [x_fill_g2, if_neg (show ¬ (32 : Int32) ≤ nI i from nI_ge (b := 32) (by omega) (by omega)), gin_n (show i < 32 by omega) (by decide), cl_n (show i < 2 ^ 31 by omega), bnd_s, nI_1]
    exact i1 n
/-- fill -/
theorem callF {bd N : Nat} {z t : ST} (h : Rel bd N z t) (u v : Int32) : ∃ r s z' t', x_fill z u v = some (r, z') ∧ m_fill t u v = some (s, t') ∧ Rel bd N z' t' := by
  obtain ⟨a, b⟩ := R_SL h
  obtain ⟨z1, f1, f2, f3⟩ := x_fl (y1 := u) (y2 := v) 32 0 z (by omega) (fun q hq => by omega)
  have sl : SLc N z1 (stI (stI t 1 u) 2 v) := by
    obtain ⟨a1, a2, a3, a4⟩ := a
    refine ⟨?_, ?_, a3, fun j hj => ?_⟩
    · rw [f2.1, f2.2 0 (by decide), f2.2 1 (by decide), f2.2 2 (by decide), f2.2 3 (by decide)]
      exact a1
    · rw [f2.1]
      exact a2
    · have := a4 j hj
      unfold TB at this ⊢
      rw [f2.2 0 (by decide), f2.2 1 (by decide), f2.2 2 (by decide), f2.2 3 (by decide), f2.2 4 (by decide), f2.2 5 (by decide), f2.2 6 (by decide), f2.2 7 (by decide), f2.2 8 (by decide), f2.2 9 (by decide)]
      exact this
  have fl : FL z1 (stI (stI t 1 u) 2 v) := fun j hj => f3 j hj
  obtain ⟨z', t', h1, h2, h3, -⟩ := begin_join sl fl
  refine ⟨0, 0, z', t', ?_, ?_, R_monoN h3 (by omega)⟩
  · show x_fill_g0 (x_fill_f 3999) z u v 0 = _
    simp only [x_fill_g0]
    have e1 := f1 3966
    rw [nI_0, show 3966 + (32 + 1) = 3999 from rfl] at e1
    rw [e1, h1, obn_s]
  · simp only [m_fill, bnd_s, h2, obn_s]
