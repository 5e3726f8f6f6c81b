/-- how long the list is -/
theorem Rs_n {bd N : Nat} {z t : ST} (h : Rel bd N z t) : ∃ f n : Nat, f < 6 ∧ n ≤ 6 ∧ z.1 13 = nI f ∧ z.1 14 = nI n ∧ t.1 6 = nI n ∧ (∀ j, j < n → z.2 17 ((f + j) % 6) = t.2 11 j ∧ (∃ w : Nat, w < 32 ∧ t.2 11 j = nI w) ∧ z.2 19 ((f + j) % 6) = t.2 13 j ∧ B01 (t.2 13 j) ∧ (t.2 13 j = 1 → z.2 18 ((f + j) % 6) = t.2 12 j)) ∧ (0 < n → t.2 13 0 = 0) := by
  obtain ⟨hP, hM, hD, hT, hF, hme, q0, q1, q2, q3, q4, hS, hA, hV, ha, hb, la, lb, hs, hl, hW, pr, pm, pa, pw⟩ := h
  obtain ⟨f, n, h1, h2, h3, h4, h5, h6, h7⟩ := hS
  exact ⟨f, n, h1, h2, h3, h4, h5, h6, h7 rfl⟩
/-- both look an address up alike -/
theorem Rs_in {bd N : Nat} {z t : ST} {a : Int32} (h : Rel bd N z t) : ∃ b : Int32, B01 b ∧ x_StoreList_holds_25 z a = some (b, z) ∧ m_isInList t a = some (b, t) := by
  obtain ⟨f, n, h1, h2, h3, h4, h5, h6, -⟩ := Rs_n h
  refine ⟨if inL (t.2 11) a n = true then 1 else 0, ?_, x_holds_s h1 h2 h3 h4 (fun j hj => (h6 j hj).1), m_inList_s h2 h5⟩
  split
  · exact Or.inr rfl
  · exact Or.inl rfl
/-- what lies behind the list's end doesn't count -/
theorem Rs_pre {bd N n : Nat} {z t : ST} {a b : Int32} (h : Rel bd N z t) (hn : t.1 6 = nI n) (hn6 : n ≤ 6) : Rel bd N z (stA (stA t 11 (upd (t.2 11) n a)) 13 (upd (t.2 13) n b)) := by
  obtain ⟨hP, hM, hD, hT, hF, hme, q0, q1, q2, q3, q4, hS, hA, hV, ha, hb, la, lb, hs, hl, hW, pr, pm, pa, pw⟩ := h
  obtain ⟨f, n', h1, h2, h3, h4, h5, h6, h7⟩ := hS
  have e : n' = n := (nI_eq (by omega) (by omega)).mp (h5.symm.trans hn)
  subst e
  have hS : RS true (z.1 13) (z.1 14) (z.2 17) (z.2 18) (z.2 19) (t.1 6) (upd (t.2 11) n' a) (t.2 12) (upd (t.2 13) n' b) := by
    refine ⟨f, n', h1, h2, h3, h4, h5, fun j hj => ?_, fun h0 h => ?_⟩
    · simp only [upd, if_neg (show ¬ j = n' by omega)]
      exact h6 j hj
    · simp only [upd, if_neg (show ¬ 0 = n' by omega)]
      exact h7 h0 h
  exact ⟨hP, hM, hD, hT, hF, hme, q0, q1, q2, q3, q4, hS, hA, hV, ha, hb, la, lb, hs, hl, hW, pr, pm, pa, pw⟩
theorem md_noop {bd N : Nat} {z t : ST} (h : Rel bd N z t) : m_drain t = some (0, t) := by
  obtain ⟨f, n, h1, h2, h3, h4, h5, h6, h7⟩ := Rs_n h
  show m_drain_g0 (m_drain_f 3999) t 0 = _
  simp only [m_drain_g0, h5, gin_r (show inR (0 : Int32) 6 = true by decide), show (0 : Int32).toNatClampNeg = 0 by decide]
  by_cases e : n = 0
  · subst e
    rw [if_pos (by decide)]
  · rw [if_neg (nI_nle (by omega) (by omega)), if_pos (h7 (by omega))]
theorem wrap_ne {f j n : Nat} (hf : f < 6) (hj : j < n) (hn : n < 6) : ¬ (f + j) % 6 = (f + n) % 6 := by
  rw [wrap hf (by omega), wrap hf hn]
  split <;> split <;> omega
/-- a store without its value -/
theorem Rs_enter {bd N n w : Nat} {z t : ST} {a v : Int32} (h : Rel bd N z t) (hz : z.1 14 = nI n) (hn : n < 6) (haw : a = nI w) (hw : w < 32) (h11 : t.2 11 n = a) (h13 : t.2 13 n = 0) : ∃ z', x_StoreList_enter_25 z a = some (0, z') ∧ Rel bd N z' (stI (stA t 12 (upd (t.2 12) n v)) 6 (nI (n + 1))) ∧ (∀ q, q ≠ 14 → z'.1 q = z.1 q) ∧ (∀ q, q ≠ 17 → q ≠ 19 → z'.2 q = z.2 q) := by
  obtain ⟨f, n', h1, h2, h3, h4, h5, h6, h7⟩ := Rs_n h
  have e : n' = n := (nI_eq (by omega) (by omega)).mp (h4.symm.trans hz)
  subst e
  have hm := Nat.mod_lt (f + n') (show 0 < 6 by decide)
  refine ⟨stI (stA (stA z 17 (upd (z.2 17) ((f + n') % 6) a)) 19 (upd (z.2 19) ((f + n') % 6) 0)) 14 (nI (n' + 1)), ?_, ?_, fun q hq => by rw [s1_n hq]; rfl, fun q q1 q2 => by rw [s1_2, s2_n q2, s2_n q1]⟩
  · simp only [x_StoreList_enter_25, hz, slot_s h3 rfl h1 (show n' ≤ 6 by omega), obn_s, gin_n hm (by decide : 6 < 2 ^ 31), cl_n (show (f + n') % 6 < 2 ^ 31 by omega), bnd_s, gib_0, s2_1, nI_1]
    rfl
  · obtain ⟨hP, hM, hD, hT, hF, hme, q0, q1, q2, q3, q4, hS, hA, hV, ha, hb, la, lb, hs, hl, hW, pr, pm, pa, pw⟩ := h
    have hS : RS true (z.1 13) (nI (n' + 1)) (upd (z.2 17) ((f + n') % 6) a) (z.2 18) (upd (z.2 19) ((f + n') % 6) 0) (nI (n' + 1)) (t.2 11) (upd (t.2 12) n' v) (t.2 13) := by
      refine ⟨f, n' + 1, h1, by omega, h3, rfl, rfl, fun j hj => ?_, fun _ _ => ?_⟩
      · by_cases e : j = n'
        · subst e
          simp only [upd, if_true]
          exact ⟨h11.symm, ⟨w, hw, by rw [h11, haw]⟩, h13.symm, Or.inl h13, fun h => by rw [h13] at h; exact absurd h (by decide)⟩
        · obtain ⟨g1, g2, g3, g4, g5⟩ := h6 j (by omega)
          simp only [upd, if_neg e, if_neg (wrap_ne h1 (show j < n' by omega) hn)]
          exact ⟨g1, g2, g3, g4, g5⟩
      · by_cases e : n' = 0
        · subst e; exact h13
        · exact h7 (by omega)
    exact ⟨hP, hM, hD, hT, hF, hme, q0, q1, q2, q3, q4, hS, hA, hV, ha, hb, la, lb, hs, hl, hW, pr, pm, pa, pw⟩
theorem know_go {bd N n : Nat} {z t : ST} {s v : Int32} (h : RelS false (true, true) bd N z t) (hz : z.1 14 = nI n) (hn : n ≤ 6) : ∃ z' t', (x_StoreList_know_25_f 3999 1 z s v = some (0, z')) ∧ m_drain t = some (0, t') ∧ Rel bd N z' t' ∧ LD z z' t t' := by
  obtain ⟨c, z', t', g1, g2, g3, g4, g5⟩ := L_drain (y1 := s) (y2 := v) n z t h hz hn
  refine ⟨z', t', ?_, ?_, g4, g5⟩
  · have e := g2 (3999 - (n + 1))
    rw [show 3999 - (n + 1) + (n + 1) = 3999 by omega] at e
    exact e
  · have e := g3 (4000 - c)
    rw [show 4000 - c + c = 4000 by omega] at e
    exact e
/-- a store with its value -/
theorem Rs_enterWith {bd N n w : Nat} {z t : ST} {a v : Int32} (h : Rel bd N z t) (hz : z.1 14 = nI n) (hn : n < 6) (haw : a = nI w) (hw : w < 32) (h11 : t.2 11 n = a) (h13 : t.2 13 n = 1) : ∃ z' t', x_StoreList_enterWith_25 z a v = some (0, z') ∧ m_drain (stI (stA t 12 (upd (t.2 12) n v)) 6 (nI (n + 1))) = some (0, t') ∧ Rel bd N z' t' ∧ (∀ q, q ≠ 13 → q ≠ 14 → z'.1 q = z.1 q) ∧ (∀ q, q ≠ 11 → q ≠ 17 → q ≠ 18 → q ≠ 19 → z'.2 q = z.2 q) ∧ (∀ q, q ≠ 6 → t'.1 q = t.1 q) ∧ ∀ q, q ≠ 8 → q ≠ 11 → q ≠ 12 → q ≠ 13 → t'.2 q = t.2 q := by
  have hh := h
  obtain ⟨f, n', h1, h2, h3, h4, h5, h6, h7⟩ := Rs_n h
  have e : n' = n := (nI_eq (by omega) (by omega)).mp (h4.symm.trans hz)
  subst e
  have hm := Nat.mod_lt (f + n') (show 0 < 6 by decide)
  have g : RelS false (true, true) bd N (stA (stA (stI (stA (stA z 17 (upd (z.2 17) ((f + n') % 6) a)) 19 (upd (z.2 19) ((f + n') % 6) 0)) 14 (nI (n' + 1))) 18 (upd (z.2 18) ((f + n') % 6) v)) 19 (upd (upd (z.2 19) ((f + n') % 6) 0) ((f + n') % 6) 1)) (stI (stA t 12 (upd (t.2 12) n' v)) 6 (nI (n' + 1))) := by
    obtain ⟨hP, hM, hD, hT, hF, hme, q0, q1, q2, q3, q4, hS, hA, hV, ha, hb, la, lb, hs, hl, hW, pr, pm, pa, pw⟩ := h
    have hS : RS false (z.1 13) (nI (n' + 1)) (upd (z.2 17) ((f + n') % 6) a) (upd (z.2 18) ((f + n') % 6) v) (upd (upd (z.2 19) ((f + n') % 6) 0) ((f + n') % 6) 1) (nI (n' + 1)) (t.2 11) (upd (t.2 12) n' v) (t.2 13) := by
      refine ⟨f, n' + 1, h1, by omega, h3, rfl, rfl, fun j hj => ?_, fun h => by cases h⟩
      by_cases e : j = n'
      · subst e
        simp only [upd, if_true]
        exact ⟨h11.symm, ⟨w, hw, by rw [h11, haw]⟩, h13.symm, Or.inr h13, fun _ => trivial⟩
      · obtain ⟨g1, g2, g3, g4, g5⟩ := h6 j (by omega)
        simp only [upd, if_neg e, if_neg (wrap_ne h1 (show j < n' by omega) hn)]
        exact ⟨g1, g2, g3, g4, g5⟩
    exact ⟨hP, hM, hD, hT, hF, hme, q0, q1, q2, q3, q4, hS, hA, hV, ha, hb, la, lb, hs, hl, hW, pr, pm, pa, pw⟩
  obtain ⟨z', t', k1, k2, k3, k4⟩ := know_go (n := n' + 1) (s := nI ((f + n') % 6)) (v := v) g rfl (by omega)
  refine ⟨z', t', ?_, k2, k3, fun q q1 q2 => ?_, fun q q1 q2 q3 q4 => ?_, fun q q1 => ?_, fun q q1 q2 q3 q4 => ?_⟩
  · have en : x_StoreList_enter_25 z a = some (0, stI (stA (stA z 17 (upd (z.2 17) ((f + n') % 6) a)) 19 (upd (z.2 19) ((f + n') % 6) 0)) 14 (nI (n' + 1))) := by
      simp only [x_StoreList_enter_25, hz, slot_s h3 rfl h1 (show n' ≤ 6 by omega), obn_s, gin_n hm (by decide : 6 < 2 ^ 31), cl_n (show (f + n') % 6 < 2 ^ 31 by omega), bnd_s, gib_0, s2_1, nI_1]
      rfl
    simp only [x_StoreList_enterWith_25, hz, slot_s h3 rfl h1 (show n' ≤ 6 by omega), obn_s, en]
    have e : x_StoreList_know_25 (stI (stA (stA z 17 (upd (z.2 17) ((f + n') % 6) a)) 19 (upd (z.2 19) ((f + n') % 6) 0)) 14 (nI (n' + 1))) (nI ((f + n') % 6)) v = some (0, z') := by
      rw [← k1]
      show x_StoreList_know_25_g0 (x_StoreList_know_25_f 3999) _ _ v = _
      simp only [x_StoreList_know_25_g0, gin_n hm (by decide : 6 < 2 ^ 31), cl_n (show (f + n') % 6 < 2 ^ 31 by omega), bnd_s, gib_1]
      rfl
    rw [e]
    rfl
  · rw [k4.1 q q1 q2]
    show (stI _ 14 _).1 q = _
    rw [s1_n q2]; rfl
  · rw [k4.2.1 q q1, s2_n q4, s2_n q3, s1_2, s2_n q4, s2_n q2]
  · rw [k4.2.2.1 q q1, s1_n q1]; rfl
  · rw [k4.2.2.2 q q1 q2 q3 q4, s1_2, s2_n q3]
/-- a value for the first store -/
theorem Rs_give {bd N n : Nat} {z t : ST} {v : Int32} (h : Rel bd N z t) (hz : z.1 14 = nI n) (h0 : 0 < n) (hn : n ≤ 6) : ∃ z' t', x_StoreList_give_25 z v = some (1, z') ∧ m_drain (stA (stA t 13 (upd (t.2 13) 0 1)) 12 (upd (t.2 12) 0 v)) = some (0, t') ∧ Rel bd N z' t' ∧ SP z z' t t' ∧ z'.1 18 = z.1 18 := by
  have hh := h
  obtain ⟨f, n', h1, h2, h3, h4, h5, h6, h7⟩ := Rs_n h
  have e : n' = n := (nI_eq (by omega) (by omega)).mp (h4.symm.trans hz)
  subst e
  have g : RelS false (true, true) bd N (stA (stA z 18 (upd (z.2 18) f v)) 19 (upd (z.2 19) f 1)) (stA (stA t 13 (upd (t.2 13) 0 1)) 12 (upd (t.2 12) 0 v)) := by
    obtain ⟨hP, hM, hD, hT, hF, hme, q0, q1, q2, q3, q4, hS, hA, hV, ha, hb, la, lb, hs, hl, hW, pr, pm, pa, pw⟩ := h
    have hS : RS false (z.1 13) (z.1 14) (z.2 17) (upd (z.2 18) f v) (upd (z.2 19) f 1) (t.1 6) (t.2 11) (upd (t.2 12) 0 v) (upd (t.2 13) 0 1) := by
      refine ⟨f, n', h1, h2, h3, h4, h5, fun j hj => ?_, fun h => by cases h⟩
      obtain ⟨g1, g2, g3, g4, g5⟩ := h6 j hj
      by_cases e : j = 0
      · subst e
        rw [Nat.add_zero, Nat.mod_eq_of_lt h1] at g1 ⊢
        simp only [upd, if_true]
        exact ⟨g1, g2, trivial, Or.inr rfl, fun _ => trivial⟩
      · have hne : ¬ (f + j) % 6 = f := by
          have := wrap_ne h1 (show 0 < j by omega) (show j < 6 by omega)
          rw [Nat.add_zero, Nat.mod_eq_of_lt h1] at this
          exact fun h => this h.symm
        simp only [upd, if_neg e, if_neg hne]
        exact ⟨g1, g2, g3, g4, g5⟩
    exact ⟨hP, hM, hD, hT, hF, hme, q0, q1, q2, q3, q4, hS, hA, hV, ha, hb, la, lb, hs, hl, hW, pr, pm, pa, pw⟩
  obtain ⟨z', t', k1, k2, k3, k4⟩ := know_go (n := n') (s := nI f) (v := v) g hz (by omega)
  refine ⟨z', t', ?_, k2, k3, ⟨fun q hq => by rw [k4.2.1 q (by omega), s2_n (by omega), s2_n (by omega)], by rw [k4.1 1 (by decide) (by decide)]; rfl, by rw [k4.1 2 (by decide) (by decide)]; rfl, fun q hq => by rw [k4.2.2.2 q (by omega) (by omega) (by omega) (by omega), s2_n (by omega), s2_n (by omega)], by rw [k4.2.2.1 0 (by decide)]; rfl⟩, by rw [k4.1 18 (by decide) (by decide)]; rfl⟩
  simp only [x_StoreList_give_25, hz]
  rw [if_neg (nI_ne0 h0 (by omega))]
  have e : x_StoreList_know_25 z (z.1 13) v = some (0, z') := by
    rw [← k1, h3]
    show x_StoreList_know_25_g0 (x_StoreList_know_25_f 3999) z (nI f) v = _
    simp only [x_StoreList_know_25_g0, gin_n h1 (by decide : 6 < 2 ^ 31), cl_n (show f < 2 ^ 31 by omega), bnd_s, gib_1]
    rfl
  rw [e]
  rfl
