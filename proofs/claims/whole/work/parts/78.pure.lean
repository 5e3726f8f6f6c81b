theorem xB1 {n : Nat} {z : ST} {y1 y2 y3 : Int32} : x_both_f (n + 1) 1 z y1 y2 y3 = x_both_g13 (x_both_f n) z y1 y2 y3 := rfl
theorem xB2 {n : Nat} {z : ST} {y1 y2 y3 : Int32} : x_both_f (n + 1) 2 z y1 y2 y3 = x_both_g38 (x_both_f n) z y1 y2 y3 := rfl
theorem xB3 {n : Nat} {z : ST} {y1 y2 y3 : Int32} : x_both_f (n + 1) 3 z y1 y2 y3 = x_both_f n 1 z y1 y2 (y3 + 1) := rfl
theorem mB1 {n : Nat} {t : ST} {y1 y2 y3 y4 : Int32} : m_both_f (n + 1) 1 t y1 y2 y3 y4 = m_both_g13 (m_both_f n) t y1 y2 y3 y4 := rfl
theorem mB2 {n : Nat} {t : ST} {y1 y2 y3 y4 : Int32} : m_both_f (n + 1) 2 t y1 y2 y3 y4 = m_both_g32 (m_both_f n) t y1 y2 y3 y4 := rfl
theorem mB3 {n : Nat} {t : ST} {y1 y2 y3 y4 : Int32} : m_both_f (n + 1) 3 t y1 y2 y3 y4 = m_both_g54 (m_both_f n) t y1 y2 y3 y4 := rfl
theorem mB4 {n : Nat} {t : ST} {y1 y2 y3 y4 : Int32} : m_both_f (n + 1) 4 t y1 y2 y3 y4 = m_both_f n 1 t y1 y4 (y3 + 1) 0 := rfl
/-- the value stream's half of a round of both -/
theorem halfV {bd N : Nat} {z t : ST} {y1 y2 y3 : Int32} {nx nm : Nat} (h : Rel bd N z t) (hbd : bd < 1000000) : ∃ (y : Int32) (z' t' : ST), x_both_f (nx + 2) 2 z y1 y2 y3 = x_both_f nx 1 z' y1 y (y3 + 1) ∧ obn (m_moveValue t) (fun r4 z4 => if r4 = 0 then (m_both_f (nm + 1) 4 z4 y1 y2 y3 y2) else (m_both_f (nm + 1) 4 z4 y1 y2 y3 (y2 + 1))) = m_both_f nm 1 t' y1 y (y3 + 1) 0 ∧ Rel (bd + 1) N z' t' := by
  obtain ⟨r, z1, t1, b1, b2, b3, b4⟩ := stepVal h hbd
  rcases b1 with b | b
  · refine ⟨y2, z1, t1, ?_, ?_, b4⟩
    · rw [xB2, x_both_g38, b2, obn_s, if_pos b, xB3]
    · rw [b3, obn_s, if_pos b, mB4]
  · have n0 : ¬ r = 0 := by rw [b]; decide
    refine ⟨y2 + 1, z1, t1, ?_, ?_, b4⟩
    · rw [xB2, x_both_g38, b2, obn_s, if_neg n0, xB3]
    · rw [b3, obn_s, if_neg n0, mB4]
theorem loopB {N c : Nat} (hc : c ≤ 50) : ∀ (m k nx nm bd : Nat) (y : Int32) (z t : ST), k + m = c → 3 * m + 1 ≤ nx → 4 * m + 1 ≤ nm → bd + m ≤ 1000000 → Rel bd N z t → ∃ (r : Int32) (z' t' : ST), x_both_f nx 1 z (nI c) y (nI k) = some (r, z') ∧ m_both_f nm 1 t (nI c) y (nI k) 0 = some (r, t') ∧ Rel (bd + m) N z' t' := by
  intro m
  induction m with
  | zero =>
    intro k nx nm bd y z t hk hx hm hbd h
    obtain ⟨nx, rfl⟩ : ∃ n, nx = n + 1 := ⟨nx - 1, by omega⟩
    obtain ⟨nm, rfl⟩ : ∃ n, nm = n + 1 := ⟨nm - 1, by omega⟩
    refine ⟨y, z, t, ?_, ?_, h⟩
    · rw [xB1, x_both_g13, if_pos (nI_le (by omega) (by omega))]
    · rw [mB1, m_both_g13, if_pos (nI_le (by omega) (by omega))]
  | succ m ih =>
    intro k nx nm bd y z t hk hx hm hbd h
    obtain ⟨nx, rfl⟩ : ∃ n, nx = n + 2 + 1 := ⟨nx - 3, by omega⟩
    obtain ⟨nm, rfl⟩ : ∃ n, nm = n + 1 + 1 + 1 + 1 := ⟨nm - 4, by omega⟩
    obtain ⟨r, z1, t1, b1, b2, b3, b4, b5, b6⟩ := stepA h
    have nle : ¬ nI c ≤ nI k := nI_ge (by omega) (by omega)
    have fin : ∀ (z2 t2 : ST) (y2 v : Int32), Rel bd N z2 (stI t2 4 v) → x_both_f (nx + 2 + 1) 1 z (nI c) y (nI k) = x_both_f (nx + 2) 2 z2 (nI c) y2 (nI k) → m_both_f (nm + 1 + 1 + 1 + 1) 1 t (nI c) y (nI k) 0 = m_both_f (nm + 1 + 1) 3 t2 (nI c) y2 (nI k) v → ∃ (r : Int32) (z' t' : ST), x_both_f (nx + 2 + 1) 1 z (nI c) y (nI k) = some (r, z') ∧ m_both_f (nm + 1 + 1 + 1 + 1) 1 t (nI c) y (nI k) 0 = some (r, t') ∧ Rel (bd + (m + 1)) N z' t' := by
      intro z2 t2 y2 v g1 g2 g3
      obtain ⟨y', z', t', f1, f2, f3⟩ := halfV (y1 := nI c) (y2 := y2) (y3 := nI k) (nx := nx) (nm := nm) g1 (by omega)
      obtain ⟨r', z3, t3, i1, i2, i3⟩ := ih (k + 1) nx nm (bd + 1) y' z' t' (by omega) (by omega) (by omega) (by omega) f3
      refine ⟨r', z3, t3, ?_, ?_, R_monoN i3 (by omega)⟩
      · rw [g2, f1, nI_1, i1]
      · rw [g3, mB3, m_both_g54, bnd_s, f2, nI_1, i2]
    rcases b1 with b | b
    · have ls := loss_s (b6 b)
      by_cases q : t1.1 5 = 0
      · rw [if_pos q] at ls
        refine fin z1 t1 y (t1.1 4) (R_lost0 b4 rfl) ?_ ?_
        · rw [xB1, x_both_g13, if_neg nle, b2, obn_s, if_pos b, ls, obn_s]
        · rw [mB1, m_both_g13, if_neg nle, b3, obn_s, if_pos b, mB2, m_both_g32, if_pos q]
      · rw [if_neg q] at ls
        refine fin _ t1 y (t1.1 4 + 1) (R_lost b4) ?_ ?_
        · rw [xB1, x_both_g13, if_neg nle, b2, obn_s, if_pos b, ls, obn_s, R_lo b4]
        · rw [mB1, m_both_g13, if_neg nle, b3, obn_s, if_pos b, mB2, m_both_g32, if_neg q]
    · have n0 : ¬ r = 0 := by rw [b]; decide
      refine fin z1 t1 (y + 1) (t1.1 4) (R_lost0 b4 rfl) ?_ ?_
      · rw [xB1, x_both_g13, if_neg nle, b2, obn_s, if_neg n0]
      · rw [mB1, m_both_g13, if_neg nle, b3, obn_s, if_neg n0, mB2, m_both_g32, if_pos (b5 b)]
/-- both -/
theorem callB {bd N : Nat} {z t : ST} (h : Rel bd N z t) (hbd : bd < 900000) (v : Int32) : ∃ r z' t', x_both z v = some (r, z') ∧ m_both t v = some (r, t') ∧ Rel (bd + 50) N z' t' := by
  rcases cnt_s v z t with ⟨c1, c2⟩ | ⟨c, h1, h50, hv, c1, c2⟩
  · refine ⟨-1, z, t, ?_, ?_, R_monoN h (by omega)⟩
    · show x_both_g0 (x_both_f 3999) z v 0 0 = _
      simp only [x_both_g0, c1, obn_s, if_true]
    · show m_both_g0 (m_both_f 3999) t v 0 0 0 = _
      simp only [m_both_g0, c2, obn_s, if_true]
  · subst hv
    have n10 : ¬ (1 : Int32) = 0 := by decide
    obtain ⟨r, z', t', d2, d3, d4⟩ := loopB (N := N) h50 c 0 3999 3999 bd 0 z t (by omega) (by omega) (by omega) (by omega) h
    rw [nI_0] at d2 d3
    refine ⟨r, z', t', ?_, ?_, R_monoN d4 (by omega)⟩
    · show x_both_g0 (x_both_f 3999) z (nI c) 0 0 = _
      simp only [x_both_g0, c1, obn_s, if_neg n10]
      exact d2
    · show m_both_g0 (m_both_f 3999) t (nI c) 0 0 0 = _
      simp only [m_both_g0, c2, obn_s, if_neg n10]
      exact d3
theorem xP1 {n : Nat} {z : ST} {y1 y2 : Int32} : x_Run_advance_35_f (n + 1) 1 z y1 y2 = x_Run_advance_35_g2 (x_Run_advance_35_f n) z y1 y2 := rfl
theorem mP1 {n : Nat} {t : ST} {y1 y2 : Int32} : m_plain_f (n + 1) 1 t y1 y2 = m_plain_g11 (m_plain_f n) t y1 y2 := rfl
theorem loopP {N c : Nat} (hc : c ≤ 50) : ∀ (m k nx nm bd : Nat) (z t : ST), k + m = c → m + 1 ≤ nx → m + 1 ≤ nm → bd + m ≤ 1000000 → Rel bd N z t → ∃ (r : Int32) (z' t' : ST), x_Run_advance_35_f nx 1 z (nI c) (nI k) = some (r, z') ∧ m_plain_f nm 1 t (nI c) (nI k) = some (r, t') ∧ Rel (bd + m) N z' t' := by
  intro m
  induction m with
  | zero =>
    intro k nx nm bd z t hk hx hm hbd h
    obtain ⟨nx, rfl⟩ : ∃ n, nx = n + 1 := ⟨nx - 1, by omega⟩
    obtain ⟨nm, rfl⟩ : ∃ n, nm = n + 1 := ⟨nm - 1, by omega⟩
    refine ⟨nI k, z, t, ?_, ?_, h⟩
    · rw [xP1, x_Run_advance_35_g2, if_pos (nI_le (by omega) (by omega))]
    · rw [mP1, m_plain_g11, if_pos (nI_le (by omega) (by omega))]
  | succ m ih =>
    intro k nx nm bd z t hk hx hm hbd h
    obtain ⟨nx, rfl⟩ : ∃ n, nx = n + 1 := ⟨nx - 1, by omega⟩
    obtain ⟨nm, rfl⟩ : ∃ n, nm = n + 1 := ⟨nm - 1, by omega⟩
    have nle : ¬ nI c ≤ nI k := nI_ge (by omega) (by omega)
    rcases stepP h (by omega) with ⟨q, b⟩ | ⟨q, z1, t1, b2, b3, b4⟩
    · refine ⟨nI k, z, t, ?_, ?_, R_monoN h (by omega)⟩
      · rw [xP1, x_Run_advance_35_g2, if_neg nle, b, obn_s, if_pos rfl]
      · rw [mP1, m_plain_g11, if_neg nle, if_pos q]
    · have n10 : ¬ (1 : Int32) = 0 := by decide
      obtain ⟨r2, z', t', c2, c3, c4⟩ := ih (k + 1) nx nm (bd + 1) z1 t1 (by omega) (by omega) (by omega) (by omega) b4
      refine ⟨r2, z', t', ?_, ?_, R_monoN c4 (by omega)⟩
      · rw [xP1, x_Run_advance_35_g2, if_neg nle, b2, obn_s, if_neg n10, nI_1, c2]
      · rw [mP1, m_plain_g11, if_neg nle, if_neg q, b3, obn_s, nI_1, c3]
/-- plain -/
theorem calP {bd N : Nat} {z t : ST} (h : Rel bd N z t) (hbd : bd < 900000) (v : Int32) : ∃ r z' t', x_plain z v = some (r, z') ∧ m_plain t v = some (r, t') ∧ Rel (bd + 50) N z' t' := by
  rcases cnt_s v z t with ⟨c1, c2⟩ | ⟨c, h1, h50, hv, c1, c2⟩
  · refine ⟨-1, z, t, ?_, ?_, R_monoN h (by omega)⟩
    · simp only [x_plain, c1, obn_s, if_true]
    · show m_plain_g0 (m_plain_f 3999) t v 0 = _
      simp only [m_plain_g0, c2, obn_s, if_true]
  · subst hv
    have n10 : ¬ (1 : Int32) = 0 := by decide
    obtain ⟨r, z', t', d2, d3, d4⟩ := loopP (N := N) h50 c 0 3999 3999 bd z t (by omega) (by omega) (by omega) (by omega) h
    rw [nI_0] at d2 d3
    have xa : x_Run_advance_35 z (nI c) = some (r, z') := by
      show x_Run_advance_35_g0 (x_Run_advance_35_f 3999) z (nI c) 0 = _
      simp only [x_Run_advance_35_g0]
      exact d2
    refine ⟨r, z', t', ?_, ?_, R_monoN d4 (by omega)⟩
    · simp only [x_plain, c1, obn_s, if_neg n10]
      rw [xa, obn_s]
    · show m_plain_g0 (m_plain_f 3999) t (nI c) 0 = _
      simp only [m_plain_g0, c2, obn_s, if_neg n10]
      exact d3
