theorem RP_eq {N : Nat} {zn tn : Int32} {zk za zb zc tk ta tb tc : Nat → Int32} (h : RP N zn zk za zb zc tn tk ta tb tc) : N ≤ 24 ∧ zn = nI N ∧ tn = nI N ∧ ∀ j, j < N → okI (tk j) (ta j) (tb j) (tc j) ∧ okI (zk j) (za j) (zb j) (zc j) := by
  obtain ⟨h1, h2, h3, h4⟩ := h
  refine ⟨h1, h2, h3, fun j hj => ?_⟩
  obtain ⟨e1, e2, e3, e4, e5⟩ := h4 j hj
  rw [e1, e2, e3, e4]
  exact ⟨e5, e5⟩
/-- only these ints of the class, only places and behind of the reference -/
def LV (i j : Nat) (z z' t t' : ST) : Prop := z'.2 = z.2 ∧ (∀ q, q ≠ i → q ≠ j → z'.1 q = z.1 q) ∧ t'.1 = t.1 ∧ ∀ q, q ≠ 6 → q ≠ 7 → t'.2 q = t.2 q
theorem LV.rf {i j : Nat} {z t : ST} : LV i j z z t t := ⟨rfl, fun _ _ _ => rfl, rfl, fun _ _ _ => rfl⟩
theorem LV.tr {i j : Nat} {z z1 z2 t t1 t2 : ST} (h : LV i j z z1 t t1) (k : LV i j z1 z2 t1 t2) : LV i j z z2 t t2 := ⟨k.1.trans h.1, fun q a b => (k.2.1 q a b).trans (h.2.1 q a b), k.2.2.1.trans h.2.2.1, fun q a b => (k.2.2.2 q a b).trans (h.2.2.2 q a b)⟩
theorem LV.sp {i j : Nat} {z z' t t' : ST} (h : LV i j z z' t t') (hi : 2 < i) (hj : 2 < j) : SP z z' t t' := ⟨fun q _ => by rw [h.1], h.2.1 1 (by omega) (by omega), h.2.1 2 (by omega) (by omega), fun q hq => h.2.2.2 q (by omega) (by omega), by rw [h.2.2.1]⟩
/-- stream 0: it leaves an instruction -/
theorem L_at0 {sb : Bool × Bool} {bd N a : Nat} {z t : ST} {w : Int32} (h : RelG sb bd N z t) (hw : a ≤ 24) : RelG sb bd N (stI (stI z 15 (nI a)) 16 (z.1 16 + 1)) (stA (stA t 6 (upd (t.2 6) 0 (nI a))) 7 (upd (t.2 7) 0 (t.2 7 0 + 1))) ∧ LV 15 16 z (stI (stI z 15 (nI a)) 16 (z.1 16 + 1)) t (stA (stA t 6 (upd (t.2 6) 0 (nI a))) 7 (upd (t.2 7) 0 (t.2 7 0 + 1))) := by
  refine ⟨?_, rfl, fun q h1 h2 => by rw [s1_n h2, s1_n h1], rfl, fun q h1 h2 => by rw [s2_n h2, s2_n h1]⟩
  obtain ⟨hP, hM, hD, hT, hF, hme, q0, q1, q2, q3, q4, hS, hA, hV, ha, hb, la, lb, hs, hl, hW, pr, pm, pa, pw⟩ := h
  have n1 : RAt (nI a) (nI a) := ⟨a, hw, rfl, rfl⟩
  have n2 : z.1 16 + 1 = t.2 7 0 + 1 := by rw [la]
  exact ⟨hP, hM, hD, hT, hF, hme, q0, q1, q2, q3, q4, hS, hA, hV, n1, hb, n2, lb, hs, hl, hW, pr, pm, pa, pw⟩
theorem L_over0 {sb : Bool × Bool} {bd N : Nat} : ∀ (m a : Nat) (z t : ST), a + m = 24 → RelG sb bd N z t → z.1 15 = nI a → ∃ z' t', (∀ n, m + 1 ≤ n → x_Stream_goOver_29_f n 0 z = some (0, z')) ∧ (∀ n, m + 1 ≤ n → m_goOver_f n 0 t 0 = some (0, t')) ∧ RelG sb bd N z' t' ∧ LV 15 16 z z' t t' := by
  intro m
  induction m with
  | zero =>
    intro a z t hm h hz
    have h0 := h
    obtain ⟨hP, hM, hD, hT, hF, hme, q0, q1, q2, q3, q4, hS, hA, hV, ha, hb, la, lb, hs, hl, hW, pr, pm, pa, pw⟩ := h
    obtain ⟨hN, e1, e2, e3⟩ := RP_eq hP
    obtain ⟨a', ha', g1, g2⟩ := ha
    have ea : a' = a := (nI_eq (by omega) (by omega)).mp (g1.symm.trans hz)
    subst ea
    refine ⟨z, t, fun n hn => ?_, fun n hn => ?_, h0, LV.rf⟩
    · obtain ⟨n, rfl⟩ : ∃ k, n = k + 1 := ⟨n - 1, by omega⟩
      show x_Stream_goOver_29_g0 (x_Stream_goOver_29_f n) z = _
      simp only [x_Stream_goOver_29_g0, hz, e1]
      rw [if_pos (nI_le (by omega) (by omega))]
    · obtain ⟨n, rfl⟩ : ∃ k, n = k + 1 := ⟨n - 1, by omega⟩
      show m_goOver_g0 (m_goOver_f n) t 0 = _
      simp only [m_goOver_g0, gin_r (show inR (0 : Int32) 2 = true by decide), show (0 : Int32).toNatClampNeg = 0 by decide, g2, e2]
      rw [if_pos (nI_le (by omega) (by omega))]
  | succ m ih =>
    intro a z t hm h hz
    have h0 := h
    obtain ⟨hP, hM, hD, hT, hF, hme, q0, q1, q2, q3, q4, hS, hA, hV, ha, hb, la, lb, hs, hl, hW, pr, pm, pa, pw⟩ := h
    obtain ⟨hN, e1, e2, e3⟩ := RP_eq hP
    obtain ⟨a', ha', g1, g2⟩ := ha
    have ea : a' = a := (nI_eq (by omega) (by omega)).mp (g1.symm.trans hz)
    subst ea
    by_cases hend : N ≤ a'
    · refine ⟨z, t, fun n hn => ?_, fun n hn => ?_, h0, LV.rf⟩
      · obtain ⟨n, rfl⟩ : ∃ k, n = k + 1 := ⟨n - 1, by omega⟩
        show x_Stream_goOver_29_g0 (x_Stream_goOver_29_f n) z = _
        simp only [x_Stream_goOver_29_g0, hz, e1]
        rw [if_pos (nI_le (by omega) (by omega))]
      · obtain ⟨n, rfl⟩ : ∃ k, n = k + 1 := ⟨n - 1, by omega⟩
        show m_goOver_g0 (m_goOver_f n) t 0 = _
        simp only [m_goOver_g0, gin_r (show inR (0 : Int32) 2 = true by decide), show (0 : Int32).toNatClampNeg = 0 by decide, g2, e2]
        rw [if_pos (nI_le (by omega) (by omega))]
    · have ok := e3 a' (by omega)
      have hb8 := hT a' (by omega)
      obtain ⟨c0, c1, c2, c3, c4⟩ := hP.2.2.2 a' (by omega)
      have hx : z.2 8 a' = fN0 (t.2 0 a') (t.2 1 a') (t.2 2 a') (t.2 3 a') (t.2 4) := by
        have e := hb8.2.2.2.2.1
        rw [e, c0, c1, c2, c3]
      have hm0 : m_isNothing t 0 (nI a') = some (fN0 (t.2 0 a') (t.2 1 a') (t.2 2 a') (t.2 3 a') (t.2 4), t) := m_isNothing0_s (by omega) ok.1
      by_cases hn0 : fN0 (t.2 0 a') (t.2 1 a') (t.2 2 a') (t.2 3 a') (t.2 4) = 0
      · refine ⟨z, t, fun n hn => ?_, fun n hn => ?_, h0, LV.rf⟩
        · obtain ⟨n, rfl⟩ : ∃ k, n = k + 1 := ⟨n - 1, by omega⟩
          show x_Stream_goOver_29_g0 (x_Stream_goOver_29_f n) z = _
          simp only [x_Stream_goOver_29_g0, hz, e1, gin_n (show a' < 24 by omega) (by decide : 24 < 2 ^ 31), cl_n (show a' < 2 ^ 31 by omega), hx]
          rw [if_neg (nI_ge (by omega) (by omega)), if_pos hn0]
        · obtain ⟨n, rfl⟩ : ∃ k, n = k + 1 := ⟨n - 1, by omega⟩
          show m_goOver_g0 (m_goOver_f n) t 0 = _
          simp only [m_goOver_g0, gin_r (show inR (0 : Int32) 2 = true by decide), show (0 : Int32).toNatClampNeg = 0 by decide, g2, e2, hm0, obn_s]
          rw [if_neg (nI_ge (by omega) (by omega)), if_pos hn0]
      · obtain ⟨r1, r2⟩ := L_at0 (a := a' + 1) (w := 0) h0 (by omega)
        obtain ⟨z', t', k1, k2, k3, k4⟩ := ih (a' + 1) _ _ (by omega) r1 (by rw [s1_n (by decide), s1_e])
        refine ⟨z', t', fun n hn => ?_, fun n hn => ?_, k3, r2.tr k4⟩
        · obtain ⟨n, rfl⟩ : ∃ k, n = k + 1 := ⟨n - 1, by omega⟩
          rw [← k1 n (by omega)]
          show x_Stream_goOver_29_g0 (x_Stream_goOver_29_f n) z = _
          simp only [x_Stream_goOver_29_g0, hz, e1, gin_n (show a' < 24 by omega) (by decide : 24 < 2 ^ 31), cl_n (show a' < 2 ^ 31 by omega), hx, bnd_s, nI_1]
          rw [if_neg (nI_ge (by omega) (by omega)), if_neg hn0]
          rfl
        · obtain ⟨n, rfl⟩ : ∃ k, n = k + 1 := ⟨n - 1, by omega⟩
          rw [← k2 n (by omega)]
          show m_goOver_g0 (m_goOver_f n) t 0 = _
          simp only [m_goOver_g0, gin_r (show inR (0 : Int32) 2 = true by decide), show (0 : Int32).toNatClampNeg = 0 by decide, g2, e2, hm0, obn_s, bnd_s, nI_1]
          rw [if_neg (nI_ge (by omega) (by omega)), if_neg hn0]
          rfl
theorem L_leave0 {sb : Bool × Bool} {bd N a : Nat} {z t : ST} {w : Int32} (h : RelG sb bd N z t) (hw : w = nI a) (ha : a ≤ 24) : ∃ z' t', x_Stream_leaveFor_29 z w = some (1, z') ∧ m_leave t 0 w = some (0, t') ∧ RelG sb bd N z' t' ∧ LV 15 16 z z' t t' := by
  subst hw
  obtain ⟨r1, r2⟩ := L_at0 (a := a) (w := 0) h ha
  obtain ⟨z', t', k1, k2, k3, k4⟩ := L_over0 (24 - a) a _ _ (by omega) r1 (by rw [s1_n (by decide), s1_e])
  refine ⟨z', t', ?_, ?_, k3, r2.tr k4⟩
  · have e := k1 4000 (by omega)
    simp only [x_Stream_leaveFor_29, bnd_s, gib_1]
    rw [show (stI z 15 (nI a)).1 16 = z.1 16 from rfl]
    show obn (x_Stream_goOver_29_f 4000 0 _) _ = _
    rw [e]
    rfl
  · have e := k2 4000 (by omega)
    simp only [m_leave, bnd_s]
    simp only [gin_r (show inR (0 : Int32) 2 = true by decide), show (0 : Int32).toNatClampNeg = 0 by decide]
    rw [show (stA t 6 (upd (t.2 6) 0 (nI a))).2 7 = t.2 7 from rfl]
    show obn (m_goOver_f 4000 0 _ 0) _ = _
    rw [e]
    rfl
/-- stream 1: it leaves an instruction -/
theorem L_at1 {sb : Bool × Bool} {bd N a : Nat} {z t : ST} {w : Int32} (h : RelG sb bd N z t) (hw : a ≤ 24) : RelG (sb.1, false) bd N (stI (stI z 18 (nI a)) 19 (z.1 19 + 1)) (stA (stA t 6 (upd (t.2 6) 1 (nI a))) 7 (upd (t.2 7) 1 (t.2 7 1 + 1))) ∧ LV 18 19 z (stI (stI z 18 (nI a)) 19 (z.1 19 + 1)) t (stA (stA t 6 (upd (t.2 6) 1 (nI a))) 7 (upd (t.2 7) 1 (t.2 7 1 + 1))) := by
  refine ⟨?_, rfl, fun q h1 h2 => by rw [s1_n h2, s1_n h1], rfl, fun q h1 h2 => by rw [s2_n h2, s2_n h1]⟩
  obtain ⟨hP, hM, hD, hT, hF, hme, q0, q1, q2, q3, q4, hS, hA, hV, ha, hb, la, lb, hs, hl, hW, pr, pm, pa, pw⟩ := h
  have n1 : RAt (nI a) (nI a) := ⟨a, hw, rfl, rfl⟩
  have n2 : z.1 19 + 1 = t.2 7 1 + 1 := by rw [lb]
  exact ⟨hP, hM, hD, hT, hF, hme, q0, q1, q2, q3, q4, hS, hA, hV, ha, ⟨n1, fun h => by cases h⟩, la, n2, hs, hl, hW, pr, pm, pa, pw⟩
theorem L_over1 {sb : Bool × Bool} {bd N : Nat} : ∀ (m a : Nat) (z t : ST), a + m = 24 → RelG (sb.1, false) bd N z t → z.1 18 = nI a → ∃ z' t', (∀ n, m + 1 ≤ n → x_Stream_goOver_31_f n 0 z = some (0, z')) ∧ (∀ n, m + 1 ≤ n → m_goOver_f n 0 t 1 = some (0, t')) ∧ RelG sb bd N z' t' ∧ LV 18 19 z z' t t' := by
  intro m
  induction m with
  | zero =>
    intro a z t hm h hz
    have h0 := h
    obtain ⟨hP, hM, hD, hT, hF, hme, q0, q1, q2, q3, q4, hS, hA, hV, ha, hb, la, lb, hs, hl, hW, pr, pm, pa, pw⟩ := h
    obtain ⟨hN, e1, e2, e3⟩ := RP_eq hP
    obtain ⟨⟨a', ha', g1, g2⟩, -⟩ := hb
    have ea : a' = a := (nI_eq (by omega) (by omega)).mp (g1.symm.trans hz)
    subst ea
    refine ⟨z, t, fun n hn => ?_, fun n hn => ?_, ⟨hP, hM, hD, hT, hF, hme, q0, q1, q2, q3, q4, hS, hA, hV, ha, ⟨⟨a', ha', g1, g2⟩, fun _ j hj he => (by
        have := (nI_eq (by omega) (by omega)).mp (g2.symm.trans he)
        omega)⟩, la, lb, hs, hl, hW, pr, pm, pa, pw⟩, LV.rf⟩
    · obtain ⟨n, rfl⟩ : ∃ k, n = k + 1 := ⟨n - 1, by omega⟩
      show x_Stream_goOver_31_g0 (x_Stream_goOver_31_f n) z = _
      simp only [x_Stream_goOver_31_g0, hz, e1]
      rw [if_pos (nI_le (by omega) (by omega))]
    · obtain ⟨n, rfl⟩ : ∃ k, n = k + 1 := ⟨n - 1, by omega⟩
      show m_goOver_g0 (m_goOver_f n) t 1 = _
      simp only [m_goOver_g0, gin_r (show inR (1 : Int32) 2 = true by decide), show (1 : Int32).toNatClampNeg = 1 by decide, g2, e2]
      rw [if_pos (nI_le (by omega) (by omega))]
  | succ m ih =>
    intro a z t hm h hz
    have h0 := h
    obtain ⟨hP, hM, hD, hT, hF, hme, q0, q1, q2, q3, q4, hS, hA, hV, ha, hb, la, lb, hs, hl, hW, pr, pm, pa, pw⟩ := h
    obtain ⟨hN, e1, e2, e3⟩ := RP_eq hP
    obtain ⟨⟨a', ha', g1, g2⟩, -⟩ := hb
    have ea : a' = a := (nI_eq (by omega) (by omega)).mp (g1.symm.trans hz)
    subst ea
    by_cases hend : N ≤ a'
    · refine ⟨z, t, fun n hn => ?_, fun n hn => ?_, ⟨hP, hM, hD, hT, hF, hme, q0, q1, q2, q3, q4, hS, hA, hV, ha, ⟨⟨a', ha', g1, g2⟩, fun _ j hj he => (by
        have := (nI_eq (by omega) (by omega)).mp (g2.symm.trans he)
        omega)⟩, la, lb, hs, hl, hW, pr, pm, pa, pw⟩, LV.rf⟩
      · obtain ⟨n, rfl⟩ : ∃ k, n = k + 1 := ⟨n - 1, by omega⟩
        show x_Stream_goOver_31_g0 (x_Stream_goOver_31_f n) z = _
        simp only [x_Stream_goOver_31_g0, hz, e1]
        rw [if_pos (nI_le (by omega) (by omega))]
      · obtain ⟨n, rfl⟩ : ∃ k, n = k + 1 := ⟨n - 1, by omega⟩
        show m_goOver_g0 (m_goOver_f n) t 1 = _
        simp only [m_goOver_g0, gin_r (show inR (1 : Int32) 2 = true by decide), show (1 : Int32).toNatClampNeg = 1 by decide, g2, e2]
        rw [if_pos (nI_le (by omega) (by omega))]
    · have ok := e3 a' (by omega)
      have hb8 := hT a' (by omega)
      obtain ⟨c0, c1, c2, c3, c4⟩ := hP.2.2.2 a' (by omega)
      have hx : z.2 9 a' = fN1 (t.2 0 a') (t.2 1 a') (t.2 2 a') (t.2 4) := by
        have e := hb8.2.2.2.2.2
        rw [e, c0, c1, c2]
      have hm0 : m_isNothing t 1 (nI a') = some (fN1 (t.2 0 a') (t.2 1 a') (t.2 2 a') (t.2 4), t) := m_isNothing1_s (by omega) ok.1
      by_cases hn0 : fN1 (t.2 0 a') (t.2 1 a') (t.2 2 a') (t.2 4) = 0
      · refine ⟨z, t, fun n hn => ?_, fun n hn => ?_, ⟨hP, hM, hD, hT, hF, hme, q0, q1, q2, q3, q4, hS, hA, hV, ha, ⟨⟨a', ha', g1, g2⟩, fun _ j hj he => (by
          have e := (nI_eq (by omega) (by omega)).mp (g2.symm.trans he)
          subst e
          exact hn0)⟩, la, lb, hs, hl, hW, pr, pm, pa, pw⟩, LV.rf⟩
        · obtain ⟨n, rfl⟩ : ∃ k, n = k + 1 := ⟨n - 1, by omega⟩
          show x_Stream_goOver_31_g0 (x_Stream_goOver_31_f n) z = _
          simp only [x_Stream_goOver_31_g0, hz, e1, gin_n (show a' < 24 by omega) (by decide : 24 < 2 ^ 31), cl_n (show a' < 2 ^ 31 by omega), hx]
          rw [if_neg (nI_ge (by omega) (by omega)), if_pos hn0]
        · obtain ⟨n, rfl⟩ : ∃ k, n = k + 1 := ⟨n - 1, by omega⟩
          show m_goOver_g0 (m_goOver_f n) t 1 = _
          simp only [m_goOver_g0, gin_r (show inR (1 : Int32) 2 = true by decide), show (1 : Int32).toNatClampNeg = 1 by decide, g2, e2, hm0, obn_s]
          rw [if_neg (nI_ge (by omega) (by omega)), if_pos hn0]
      · obtain ⟨r1, r2⟩ := L_at1 (sb := (sb.1, false)) (a := a' + 1) (w := 0) h0 (by omega)
        obtain ⟨z', t', k1, k2, k3, k4⟩ := ih (a' + 1) _ _ (by omega) r1 (by rw [s1_n (by decide), s1_e])
        refine ⟨z', t', fun n hn => ?_, fun n hn => ?_, k3, r2.tr k4⟩
        · obtain ⟨n, rfl⟩ : ∃ k, n = k + 1 := ⟨n - 1, by omega⟩
          rw [← k1 n (by omega)]
          show x_Stream_goOver_31_g0 (x_Stream_goOver_31_f n) z = _
          simp only [x_Stream_goOver_31_g0, hz, e1, gin_n (show a' < 24 by omega) (by decide : 24 < 2 ^ 31), cl_n (show a' < 2 ^ 31 by omega), hx, bnd_s, nI_1]
          rw [if_neg (nI_ge (by omega) (by omega)), if_neg hn0]
          rfl
        · obtain ⟨n, rfl⟩ : ∃ k, n = k + 1 := ⟨n - 1, by omega⟩
          rw [← k2 n (by omega)]
          show m_goOver_g0 (m_goOver_f n) t 1 = _
          simp only [m_goOver_g0, gin_r (show inR (1 : Int32) 2 = true by decide), show (1 : Int32).toNatClampNeg = 1 by decide, g2, e2, hm0, obn_s, bnd_s, nI_1]
          rw [if_neg (nI_ge (by omega) (by omega)), if_neg hn0]
          rfl
theorem L_leave1 {sb : Bool × Bool} {bd N a : Nat} {z t : ST} {w : Int32} (h : RelG sb bd N z t) (hw : w = nI a) (ha : a ≤ 24) : ∃ z' t', x_Stream_leaveFor_31 z w = some (1, z') ∧ m_leave t 1 w = some (0, t') ∧ RelG sb bd N z' t' ∧ LV 18 19 z z' t t' := by
  subst hw
  obtain ⟨r1, r2⟩ := L_at1 (a := a) (w := 0) h ha
  obtain ⟨z', t', k1, k2, k3, k4⟩ := L_over1 (sb := sb) (24 - a) a _ _ (by omega) r1 (by rw [s1_n (by decide), s1_e])
  refine ⟨z', t', ?_, ?_, k3, r2.tr k4⟩
  · have e := k1 4000 (by omega)
    simp only [x_Stream_leaveFor_31, bnd_s, gib_1]
    rw [show (stI z 18 (nI a)).1 19 = z.1 19 from rfl]
    show obn (x_Stream_goOver_31_f 4000 0 _) _ = _
    rw [e]
    rfl
  · have e := k2 4000 (by omega)
    simp only [m_leave, bnd_s]
    simp only [gin_r (show inR (1 : Int32) 2 = true by decide), show (1 : Int32).toNatClampNeg = 1 by decide]
    rw [show (stA t 6 (upd (t.2 6) 1 (nI a))).2 7 = t.2 7 from rfl]
    show obn (m_goOver_f 4000 0 _ 1) _ = _
    rw [e]
    rfl
