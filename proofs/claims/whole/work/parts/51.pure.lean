/-- the program stays -/
def SP (z z' t t' : ST) : Prop := (∀ q, q < 10 → z'.2 q = z.2 q) ∧ z'.1 1 = z.1 1 ∧ z'.1 2 = z.1 2 ∧ (∀ q, q < 5 → t'.2 q = t.2 q) ∧ t'.1 0 = t.1 0
theorem SP.rf {z t : ST} : SP z z t t := ⟨fun _ _ => rfl, rfl, rfl, fun _ _ => rfl, rfl⟩
theorem SP.tr {z z1 z2 t t1 t2 : ST} (h : SP z z1 t t1) (k : SP z1 z2 t1 t2) : SP z z2 t t2 := ⟨fun q hq => (k.1 q hq).trans (h.1 q hq), k.2.1.trans h.2.1, k.2.2.1.trans h.2.2.1, fun q hq => (k.2.2.2.1 q hq).trans (h.2.2.2.1 q hq), k.2.2.2.2.trans h.2.2.2.2⟩
theorem RQ_row {P : Int32 → Prop} {c : Nat} {F S : Int32} {a : Nat → Int32} {l : Int32} {row row' : Nat → Int32} (h : RQ P c F S a l row) (hr : ∀ j, j < c → row' j = row j) : RQ P c F S a l row' := by
  obtain ⟨f, n, h1, h2, h3, h4, h5, h6⟩ := h
  refine ⟨f, n, h1, h2, h3, h4, h5, fun j hj => ?_⟩
  rw [hr j (by omega)]
  exact h6 j hj
theorem mq_put {t : ST} {q n : Nat} {x v : Int32} (hx : x = nI q) (hq : q < 5) (hn : n < 6) (h : t.2 10 q = nI n) : m_put t x v = some (0, stA (stA t 9 (upd (t.2 9) (6 * q + n) v)) 10 (upd (t.2 10) q (nI (n + 1)))) := by
  subst hx
  have e : (6 : Int32) * nI q + nI n = nI (6 * q + n) := by rw [show (6 : Int32) = nI 6 by decide, pk_mul, nI_add]
  simp only [m_put, gin_n hq (by decide : 5 < 2 ^ 31), cl_n (show q < 2 ^ 31 by omega), h, e, gin_n (show 6 * q + n < 30 by omega) (by decide : 30 < 2 ^ 31), cl_n (show 6 * q + n < 2 ^ 31 by omega), bnd_s]
  rw [show (stA t 9 (upd (t.2 9) (6 * q + n) v)).2 10 q = nI n from h, nI_1]
  rfl
theorem mq_room {t : ST} {q n m : Nat} {x : Int32} (hx : x = nI q) (hq : q < 5) (hn : n ≤ 6) (hm : m ≤ 2) (h : t.2 10 q = nI n) : m_hasRoom t x (nI m) = some (if n + m ≤ (if q = 4 then 6 else 4) then 1 else 0, t) := by
  subst hx
  simp only [m_hasRoom, m_hasRoom_19, gin_n hq (by decide : 5 < 2 ^ 31), cl_n (show q < 2 ^ 31 by omega), h, nI_add, gib_0, gib_1]
  rw [show (6 : Int32) = nI 6 by decide, show (4 : Int32) = nI 4 by decide]
  by_cases e4 : q = 4
  · rw [if_pos ((nI_eq (by omega) (by omega)).mpr e4)]
    by_cases e : n + m ≤ 6
    · rw [if_neg (nI_nlt e (by omega))]; simp [e4, e]
    · rw [if_pos (nI_lt (by omega) (by omega))]; simp [e4, e]
  · rw [if_neg (fun h => e4 ((nI_eq (by omega) (by omega)).mp h))]
    by_cases e : n + m ≤ 4
    · rw [if_neg (nI_nlt e (by omega))]; simp [e4, e]
    · rw [if_pos (nI_lt (by omega) (by omega))]; simp [e4, e]
theorem mt_loop {q n : Nat} {v : Int32} (hq : q < 5) (hn : n ≤ 6) : ∀ (m i : Nat) (t : ST), i + m = n - 1 → 0 < n → t.2 10 q = nI (n - 1) → ∃ t', (∀ r, m_take_f (r + (m + 1)) 1 t (nI q) v (nI i) = some (v, t')) ∧ onlyA 9 t t' ∧ ∀ j, t'.2 9 j = if 6 * q + i ≤ j ∧ j < 6 * q + (n - 1) then t.2 9 (j + 1) else t.2 9 j := by
  intro m
  induction m with
  | zero =>
    intro i t hi h0 h
    have e : i = n - 1 := by omega
    subst e
    refine ⟨t, fun r => ?_, onlyA.rf, fun j => ?_⟩
    · show m_take_g26 (m_take_f r) t (nI q) v (nI (n - 1)) = _
      simp only [m_take_g26, gin_n hq (by decide : 5 < 2 ^ 31), cl_n (show q < 2 ^ 31 by omega), h]
      rw [if_pos (nI_le (Nat.le_refl _) (by omega))]
    · rw [if_neg (by omega)]
  | succ m ih =>
    intro i t hi h0 h
    obtain ⟨t', g1, g2, g3⟩ := ih (i + 1) (stA t 9 (upd (t.2 9) (6 * q + i) (t.2 9 (6 * q + i + 1)))) (by omega) h0 h
    refine ⟨t', fun r => ?_, onlyA.st.tr g2, fun j => ?_⟩
    · rw [← g1 r]
      show m_take_g26 (m_take_f (r + (m + 1))) t (nI q) v (nI i) = _
      have e : (6 : Int32) * nI q + nI i = nI (6 * q + i) := by rw [show (6 : Int32) = nI 6 by decide, pk_mul, nI_add]
      simp only [m_take_g26, gin_n hq (by decide : 5 < 2 ^ 31), cl_n (show q < 2 ^ 31 by omega), h, e, nI_1, gin_n (show 6 * q + i < 30 by omega) (by decide : 30 < 2 ^ 31), gin_n (show 6 * q + i + 1 < 30 by omega) (by decide : 30 < 2 ^ 31), cl_n (show 6 * q + i < 2 ^ 31 by omega), cl_n (show 6 * q + i + 1 < 2 ^ 31 by omega), bnd_s]
      rw [if_neg (nI_ge (by omega) (by omega))]
    · rw [g3 j, s2_e]
      simp only [upd]
      by_cases e1 : j = 6 * q + i
      · subst e1
        rw [if_neg (by omega), if_pos rfl, if_pos (by omega)]
      · by_cases e2 : 6 * q + (i + 1) ≤ j ∧ j < 6 * q + (n - 1)
        · rw [if_pos e2, if_neg (by omega), if_pos (by omega)]
        · rw [if_neg e2, if_neg e1, if_neg (by omega)]
theorem mq_take {t : ST} {q n : Nat} {x : Int32} (hx : x = nI q) (hq : q < 5) (h0 : 0 < n) (hn : n ≤ 6) (h : t.2 10 q = nI n) : ∃ t', m_take t x = some (t.2 9 (6 * q), t') ∧ t'.1 = t.1 ∧ (∀ k, k ≠ 9 → k ≠ 10 → t'.2 k = t.2 k) ∧ t'.2 10 = upd (t.2 10) q (nI (n - 1)) ∧ ∀ j, t'.2 9 j = if 6 * q ≤ j ∧ j < 6 * q + (n - 1) then t.2 9 (j + 1) else t.2 9 j := by
  subst hx
  obtain ⟨t', g1, g2, g3⟩ := mt_loop (v := t.2 9 (6 * q)) hq hn (n - 1) 0 (stA t 10 (upd (t.2 10) q (nI (n - 1)))) (by omega) h0 (by rw [s2_e]; simp [upd])
  refine ⟨t', ?_, g2.1, fun k h9 h10 => ?_, ?_, fun j => ?_⟩
  · rw [← g1 (4000 - 1 - n)]
    show m_take_g0 (m_take_f 3999) t (nI q) 0 0 = _
    have e : (6 : Int32) * nI q = nI (6 * q) := by rw [show (6 : Int32) = nI 6 by decide, pk_mul]
    have es : nI n - 1 = nI (n - 1) := by
      obtain ⟨m, rfl⟩ : ∃ m, n = m + 1 := ⟨n - 1, by omega⟩
      exact nI_pred m
    simp only [m_take_g0, gin_n hq (by decide : 5 < 2 ^ 31), cl_n (show q < 2 ^ 31 by omega), h, e, es, gin_n (show 6 * q < 30 by omega) (by decide : 30 < 2 ^ 31), cl_n (show 6 * q < 2 ^ 31 by omega), bnd_s, nI_0]
    rw [show 4000 - 1 - n + (n - 1 + 1) = 3999 by omega]
  · rw [g2.2 k h9, s2_n h10]
  · rw [g2.2 10 (by decide), s2_e]
  · rw [g3 j]
    rfl
/-- queue 0: how long; put; take -/
theorem Rq_n0 {sb : Bool × Bool} {bd N : Nat} {z t : ST} (h : RelG sb bd N z t) : ∃ f n : Nat, f < 4 ∧ n ≤ 4 ∧ z.1 3 = nI f ∧ z.1 4 = nI n ∧ t.2 10 0 = nI n ∧ ∀ j, j < n → z.2 12 ((f + j) % 4) = t.2 9 (0 + j) ∧ (fun _ => True) (t.2 9 (0 + j)) := by
  obtain ⟨hP, hM, hD, hT, hF, hme, q0, q1, q2, q3, q4, hS, hA, hV, ha, hb, la, lb, hs, hl, hW, pr, pm, pa, pw⟩ := h
  exact q0
theorem Rq_put0 {sb : Bool × Bool} {bd N n : Nat} {z t : ST} {v : Int32} (h : RelG sb bd N z t) (hn : n < 4) (hz : z.1 4 = nI n) (hv : (fun _ => True) v) : ∃ z' t', x_Fifo_put_15 z v = some (0, z') ∧ m_put t 0 v = some (0, t') ∧ RelG sb bd N z' t' ∧ SP z z' t t' ∧ z'.1 4 = nI (n + 1) ∧ z'.1 15 = z.1 15 ∧ z'.1 18 = z.1 18 ∧ z'.1 17 = z.1 17 ∧ z'.2 20 = z.2 20 ∧ z'.2 21 = z.2 21 ∧ t'.2 5 = t.2 5 ∧ t'.1 3 = t.1 3 ∧ t'.1 5 = t.1 5 := by
  obtain ⟨f, n', hf, hn', h1, h2, h3, h4⟩ := Rq_n0 h
  have e : n' = n := (nI_eq (by omega) (by omega)).mp (h2.symm.trans hz)
  subst e
  refine ⟨_, _, xq_put0 hf hn h1 h2, mq_put (q := 0) (n := n') (by decide) (by decide) (by omega) h3, ?_, ⟨fun q hq => by rw [s1_2, s2_n (by omega)], rfl, rfl, fun q hq => by rw [s2_n (by omega), s2_n (by omega)], rfl⟩, s1_e, rfl, rfl, rfl, rfl, rfl, rfl, rfl, rfl⟩
  have hr := RQ_put (P := (fun _ => True)) (v := v) hf hn hv h4
  obtain ⟨hP, hM, hD, hT, hF, hme, q0, q1, q2, q3, q4, hS, hA, hV, ha, hb, la, lb, hs, hl, hW, pr, pm, pa, pw⟩ := h
  have hq : RQ (fun _ => True) 4 (z.1 3) (nI (n' + 1)) (upd (z.2 12) ((f + n') % 4) v) (nI (n' + 1)) (fun j => upd (t.2 9) (6 * 0 + n') v (0 + j)) := by
    rw [h1]
    refine RQ_row hr (fun j hj => ?_)
    simp only [upd]
    by_cases e : j = n'
    · subst e; simp
    · rw [if_neg (by omega), if_neg e]
  exact ⟨hP, hM, hD, hT, hF, hme, hq, (RQ_row (row' := fun j => upd (t.2 9) (6 * 0 + n') v (6 + j)) q1 (fun j hj => by simp only [upd]; rw [if_neg (by omega)])), (RQ_row (row' := fun j => upd (t.2 9) (6 * 0 + n') v (12 + j)) q2 (fun j hj => by simp only [upd]; rw [if_neg (by omega)])), (RQ_row (row' := fun j => upd (t.2 9) (6 * 0 + n') v (18 + j)) q3 (fun j hj => by simp only [upd]; rw [if_neg (by omega)])), (RQ_row (row' := fun j => upd (t.2 9) (6 * 0 + n') v (24 + j)) q4 (fun j hj => by simp only [upd]; rw [if_neg (by omega)])), hS, hA, hV, ha, hb, la, lb, hs, hl, hW, pr, pm, pa, pw⟩
theorem Rq_take0 {sb : Bool × Bool} {bd N n : Nat} {z t : ST} (h : RelG sb bd N z t) (hn : 0 < n) (hle : n ≤ 4) (hz : z.1 4 = nI n) : ∃ v z' t', x_Fifo_take_15 z = some (v, z') ∧ m_take t 0 = some (v, t') ∧ (fun _ => True) v ∧ v = t.2 9 0 ∧ RelG sb bd N z' t' ∧ SP z z' t t' ∧ z'.1 4 = nI (n - 1) ∧ z'.1 15 = z.1 15 ∧ z'.1 18 = z.1 18 ∧ z'.1 17 = z.1 17 ∧ z'.2 20 = z.2 20 ∧ z'.2 21 = z.2 21 ∧ t'.2 5 = t.2 5 ∧ t'.1 = t.1 ∧ (1 < n → t'.2 9 0 = t.2 9 (0 + 1)) := by
  obtain ⟨f, n', hf, hn', h1, h2, h3, h4⟩ := Rq_n0 h
  have e : n' = n := (nI_eq (by omega) (by omega)).mp (h2.symm.trans hz)
  subst e
  obtain ⟨t', g1, g2, g3, e10, e9⟩ := mq_take (t := t) (q := 0) (n := n') (x := 0) (by decide) (by decide) hn (by omega) h3
  have h40 := h4 0 hn
  rw [Nat.add_zero, Nat.mod_eq_of_lt hf] at h40
  refine ⟨t.2 9 0, stI (stI z 3 (nI ((f + 1) % 4))) 4 (nI (n' - 1)), t', by rw [xq_take0 hf hn h1 h2, h40.1], g1, h40.2, rfl, ?_, ⟨fun q hq => rfl, rfl, rfl, fun q hq => g3 q (by omega) (by omega), by rw [g2]⟩, s1_e, rfl, rfl, rfl, rfl, rfl, g3 5 (by decide) (by decide), g2, fun h1 => by rw [e9, if_pos (by omega)]⟩
  · have hr := RQ_take (P := (fun _ => True)) (row' := fun j => t'.2 9 (0 + j)) hf hn (by omega) h4 (fun j hj => by
      show t'.2 9 (0 + j) = _
      rw [e9, if_pos (by omega)]; rfl)
    obtain ⟨hP, hM, hD, hT, hF, hme, q0, q1, q2, q3, q4, hS, hA, hV, ha, hb, la, lb, hs, hl, hW, pr, pm, pa, pw⟩ := h
    have a0 := g3 0 (by decide) (by decide); have a1 := g3 1 (by decide) (by decide); have a2 := g3 2 (by decide) (by decide); have a3 := g3 3 (by decide) (by decide); have a4 := g3 4 (by decide) (by decide); have a5 := g3 5 (by decide) (by decide); have a6 := g3 6 (by decide) (by decide); have a7 := g3 7 (by decide) (by decide); have a8 := g3 8 (by decide) (by decide)
    have b1 := g3 11 (by decide) (by decide); have b2 := g3 12 (by decide) (by decide); have b3 := g3 13 (by decide) (by decide); have b4 := g3 14 (by decide) (by decide); have b5 := g3 15 (by decide) (by decide); have b6 := g3 16 (by decide) (by decide)
    unfold RelG RelS
    rw [g2, a0, a1, a2, a3, a4, a5, a6, a7, a8, b1, b2, b3, b4, b5, b6]
    have hq : RQ (fun _ => True) 4 (nI ((f + 1) % 4)) (nI (n' - 1)) (z.2 12) (t'.2 10 0) (fun j => t'.2 9 (0 + j)) := by
      rw [e10]
      simp only [upd, if_true]
      exact hr
    exact ⟨hP, hM, hD, hT, hF, hme, hq, (by rw [e10]; exact RQ_row (row' := fun j => t'.2 9 (6 + j)) q1 (fun j hj => by rw [e9, if_neg (by omega)])), (by rw [e10]; exact RQ_row (row' := fun j => t'.2 9 (12 + j)) q2 (fun j hj => by rw [e9, if_neg (by omega)])), (by rw [e10]; exact RQ_row (row' := fun j => t'.2 9 (18 + j)) q3 (fun j hj => by rw [e9, if_neg (by omega)])), (by rw [e10]; exact RQ_row (row' := fun j => t'.2 9 (24 + j)) q4 (fun j hj => by rw [e9, if_neg (by omega)])), hS, hA, hV, ha, hb, la, lb, hs, hl, hW, pr, pm, pa, pw⟩
/-- queue 1: how long; put; take -/
theorem Rq_n1 {sb : Bool × Bool} {bd N : Nat} {z t : ST} (h : RelG sb bd N z t) : ∃ f n : Nat, f < 4 ∧ n ≤ 4 ∧ z.1 5 = nI f ∧ z.1 6 = nI n ∧ t.2 10 1 = nI n ∧ ∀ j, j < n → z.2 13 ((f + j) % 4) = t.2 9 (6 + j) ∧ (fun _ => True) (t.2 9 (6 + j)) := by
  obtain ⟨hP, hM, hD, hT, hF, hme, q0, q1, q2, q3, q4, hS, hA, hV, ha, hb, la, lb, hs, hl, hW, pr, pm, pa, pw⟩ := h
  exact q1
theorem Rq_put1 {sb : Bool × Bool} {bd N n : Nat} {z t : ST} {v : Int32} (h : RelG sb bd N z t) (hn : n < 4) (hz : z.1 6 = nI n) (hv : (fun _ => True) v) : ∃ z' t', x_Fifo_put_16 z v = some (0, z') ∧ m_put t 1 v = some (0, t') ∧ RelG sb bd N z' t' ∧ SP z z' t t' ∧ z'.1 6 = nI (n + 1) ∧ z'.1 15 = z.1 15 ∧ z'.1 18 = z.1 18 ∧ z'.1 17 = z.1 17 ∧ z'.2 20 = z.2 20 ∧ z'.2 21 = z.2 21 ∧ t'.2 5 = t.2 5 ∧ t'.1 3 = t.1 3 ∧ t'.1 5 = t.1 5 := by
  obtain ⟨f, n', hf, hn', h1, h2, h3, h4⟩ := Rq_n1 h
  have e : n' = n := (nI_eq (by omega) (by omega)).mp (h2.symm.trans hz)
  subst e
  refine ⟨_, _, xq_put1 hf hn h1 h2, mq_put (q := 1) (n := n') (by decide) (by decide) (by omega) h3, ?_, ⟨fun q hq => by rw [s1_2, s2_n (by omega)], rfl, rfl, fun q hq => by rw [s2_n (by omega), s2_n (by omega)], rfl⟩, s1_e, rfl, rfl, rfl, rfl, rfl, rfl, rfl, rfl⟩
  have hr := RQ_put (P := (fun _ => True)) (v := v) hf hn hv h4
  obtain ⟨hP, hM, hD, hT, hF, hme, q0, q1, q2, q3, q4, hS, hA, hV, ha, hb, la, lb, hs, hl, hW, pr, pm, pa, pw⟩ := h
  have hq : RQ (fun _ => True) 4 (z.1 5) (nI (n' + 1)) (upd (z.2 13) ((f + n') % 4) v) (nI (n' + 1)) (fun j => upd (t.2 9) (6 * 1 + n') v (6 + j)) := by
    rw [h1]
    refine RQ_row hr (fun j hj => ?_)
    simp only [upd]
    by_cases e : j = n'
    · subst e; simp
    · rw [if_neg (by omega), if_neg e]
  exact ⟨hP, hM, hD, hT, hF, hme, (RQ_row (row' := fun j => upd (t.2 9) (6 * 1 + n') v (0 + j)) q0 (fun j hj => by simp only [upd]; rw [if_neg (by omega)])), hq, (RQ_row (row' := fun j => upd (t.2 9) (6 * 1 + n') v (12 + j)) q2 (fun j hj => by simp only [upd]; rw [if_neg (by omega)])), (RQ_row (row' := fun j => upd (t.2 9) (6 * 1 + n') v (18 + j)) q3 (fun j hj => by simp only [upd]; rw [if_neg (by omega)])), (RQ_row (row' := fun j => upd (t.2 9) (6 * 1 + n') v (24 + j)) q4 (fun j hj => by simp only [upd]; rw [if_neg (by omega)])), hS, hA, hV, ha, hb, la, lb, hs, hl, hW, pr, pm, pa, pw⟩
theorem Rq_take1 {sb : Bool × Bool} {bd N n : Nat} {z t : ST} (h : RelG sb bd N z t) (hn : 0 < n) (hle : n ≤ 4) (hz : z.1 6 = nI n) : ∃ v z' t', x_Fifo_take_16 z = some (v, z') ∧ m_take t 1 = some (v, t') ∧ (fun _ => True) v ∧ v = t.2 9 6 ∧ RelG sb bd N z' t' ∧ SP z z' t t' ∧ z'.1 6 = nI (n - 1) ∧ z'.1 15 = z.1 15 ∧ z'.1 18 = z.1 18 ∧ z'.1 17 = z.1 17 ∧ z'.2 20 = z.2 20 ∧ z'.2 21 = z.2 21 ∧ t'.2 5 = t.2 5 ∧ t'.1 = t.1 ∧ (1 < n → t'.2 9 6 = t.2 9 (6 + 1)) := by
  obtain ⟨f, n', hf, hn', h1, h2, h3, h4⟩ := Rq_n1 h
  have e : n' = n := (nI_eq (by omega) (by omega)).mp (h2.symm.trans hz)
  subst e
  obtain ⟨t', g1, g2, g3, e10, e9⟩ := mq_take (t := t) (q := 1) (n := n') (x := 1) (by decide) (by decide) hn (by omega) h3
  have h40 := h4 0 hn
  rw [Nat.add_zero, Nat.mod_eq_of_lt hf] at h40
  refine ⟨t.2 9 6, stI (stI z 5 (nI ((f + 1) % 4))) 6 (nI (n' - 1)), t', by rw [xq_take1 hf hn h1 h2, h40.1], g1, h40.2, rfl, ?_, ⟨fun q hq => rfl, rfl, rfl, fun q hq => g3 q (by omega) (by omega), by rw [g2]⟩, s1_e, rfl, rfl, rfl, rfl, rfl, g3 5 (by decide) (by decide), g2, fun h1 => by rw [e9, if_pos (by omega)]⟩
  · have hr := RQ_take (P := (fun _ => True)) (row' := fun j => t'.2 9 (6 + j)) hf hn (by omega) h4 (fun j hj => by
      show t'.2 9 (6 + j) = _
      rw [e9, if_pos (by omega)]; rfl)
    obtain ⟨hP, hM, hD, hT, hF, hme, q0, q1, q2, q3, q4, hS, hA, hV, ha, hb, la, lb, hs, hl, hW, pr, pm, pa, pw⟩ := h
    have a0 := g3 0 (by decide) (by decide); have a1 := g3 1 (by decide) (by decide); have a2 := g3 2 (by decide) (by decide); have a3 := g3 3 (by decide) (by decide); have a4 := g3 4 (by decide) (by decide); have a5 := g3 5 (by decide) (by decide); have a6 := g3 6 (by decide) (by decide); have a7 := g3 7 (by decide) (by decide); have a8 := g3 8 (by decide) (by decide)
    have b1 := g3 11 (by decide) (by decide); have b2 := g3 12 (by decide) (by decide); have b3 := g3 13 (by decide) (by decide); have b4 := g3 14 (by decide) (by decide); have b5 := g3 15 (by decide) (by decide); have b6 := g3 16 (by decide) (by decide)
    unfold RelG RelS
    rw [g2, a0, a1, a2, a3, a4, a5, a6, a7, a8, b1, b2, b3, b4, b5, b6]
    have hq : RQ (fun _ => True) 4 (nI ((f + 1) % 4)) (nI (n' - 1)) (z.2 13) (t'.2 10 1) (fun j => t'.2 9 (6 + j)) := by
      rw [e10]
      simp only [upd, if_true]
      exact hr
    exact ⟨hP, hM, hD, hT, hF, hme, (by rw [e10]; exact RQ_row (row' := fun j => t'.2 9 (0 + j)) q0 (fun j hj => by rw [e9, if_neg (by omega)])), hq, (by rw [e10]; exact RQ_row (row' := fun j => t'.2 9 (12 + j)) q2 (fun j hj => by rw [e9, if_neg (by omega)])), (by rw [e10]; exact RQ_row (row' := fun j => t'.2 9 (18 + j)) q3 (fun j hj => by rw [e9, if_neg (by omega)])), (by rw [e10]; exact RQ_row (row' := fun j => t'.2 9 (24 + j)) q4 (fun j hj => by rw [e9, if_neg (by omega)])), hS, hA, hV, ha, hb, la, lb, hs, hl, hW, pr, pm, pa, pw⟩
/-- queue 2: how long; put; take -/
theorem Rq_n2 {sb : Bool × Bool} {bd N : Nat} {z t : ST} (h : RelG sb bd N z t) : ∃ f n : Nat, f < 4 ∧ n ≤ 4 ∧ z.1 7 = nI f ∧ z.1 8 = nI n ∧ t.2 10 2 = nI n ∧ ∀ j, j < n → z.2 14 ((f + j) % 4) = t.2 9 (12 + j) ∧ B01 (t.2 9 (12 + j)) := by
  obtain ⟨hP, hM, hD, hT, hF, hme, q0, q1, q2, q3, q4, hS, hA, hV, ha, hb, la, lb, hs, hl, hW, pr, pm, pa, pw⟩ := h
  exact q2
theorem Rq_put2 {sb : Bool × Bool} {bd N n : Nat} {z t : ST} {v : Int32} (h : RelG sb bd N z t) (hn : n < 4) (hz : z.1 8 = nI n) (hv : B01 v) : ∃ z' t', x_Fifo_put_17 z v = some (0, z') ∧ m_put t 2 v = some (0, t') ∧ RelG sb bd N z' t' ∧ SP z z' t t' ∧ z'.1 8 = nI (n + 1) ∧ z'.1 15 = z.1 15 ∧ z'.1 18 = z.1 18 ∧ z'.1 17 = z.1 17 ∧ z'.2 20 = z.2 20 ∧ z'.2 21 = z.2 21 ∧ t'.2 5 = t.2 5 ∧ t'.1 3 = t.1 3 ∧ t'.1 5 = t.1 5 := by
  obtain ⟨f, n', hf, hn', h1, h2, h3, h4⟩ := Rq_n2 h
  have e : n' = n := (nI_eq (by omega) (by omega)).mp (h2.symm.trans hz)
  subst e
  refine ⟨_, _, xq_put2 hf hn h1 h2, mq_put (q := 2) (n := n') (by decide) (by decide) (by omega) h3, ?_, ⟨fun q hq => by rw [s1_2, s2_n (by omega)], rfl, rfl, fun q hq => by rw [s2_n (by omega), s2_n (by omega)], rfl⟩, s1_e, rfl, rfl, rfl, rfl, rfl, rfl, rfl, rfl⟩
  have hr := RQ_put (P := B01) (v := v) hf hn hv h4
  obtain ⟨hP, hM, hD, hT, hF, hme, q0, q1, q2, q3, q4, hS, hA, hV, ha, hb, la, lb, hs, hl, hW, pr, pm, pa, pw⟩ := h
  have hq : RQ B01 4 (z.1 7) (nI (n' + 1)) (upd (z.2 14) ((f + n') % 4) v) (nI (n' + 1)) (fun j => upd (t.2 9) (6 * 2 + n') v (12 + j)) := by
    rw [h1]
    refine RQ_row hr (fun j hj => ?_)
    simp only [upd]
    by_cases e : j = n'
    · subst e; simp
    · rw [if_neg (by omega), if_neg e]
  exact ⟨hP, hM, hD, hT, hF, hme, (RQ_row (row' := fun j => upd (t.2 9) (6 * 2 + n') v (0 + j)) q0 (fun j hj => by simp only [upd]; rw [if_neg (by omega)])), (RQ_row (row' := fun j => upd (t.2 9) (6 * 2 + n') v (6 + j)) q1 (fun j hj => by simp only [upd]; rw [if_neg (by omega)])), hq, (RQ_row (row' := fun j => upd (t.2 9) (6 * 2 + n') v (18 + j)) q3 (fun j hj => by simp only [upd]; rw [if_neg (by omega)])), (RQ_row (row' := fun j => upd (t.2 9) (6 * 2 + n') v (24 + j)) q4 (fun j hj => by simp only [upd]; rw [if_neg (by omega)])), hS, hA, hV, ha, hb, la, lb, hs, hl, hW, pr, pm, pa, pw⟩
theorem Rq_take2 {sb : Bool × Bool} {bd N n : Nat} {z t : ST} (h : RelG sb bd N z t) (hn : 0 < n) (hle : n ≤ 4) (hz : z.1 8 = nI n) : ∃ v z' t', x_Fifo_take_17 z = some (v, z') ∧ m_take t 2 = some (v, t') ∧ B01 v ∧ v = t.2 9 12 ∧ RelG sb bd N z' t' ∧ SP z z' t t' ∧ z'.1 8 = nI (n - 1) ∧ z'.1 15 = z.1 15 ∧ z'.1 18 = z.1 18 ∧ z'.1 17 = z.1 17 ∧ z'.2 20 = z.2 20 ∧ z'.2 21 = z.2 21 ∧ t'.2 5 = t.2 5 ∧ t'.1 = t.1 ∧ (1 < n → t'.2 9 12 = t.2 9 (12 + 1)) := by
  obtain ⟨f, n', hf, hn', h1, h2, h3, h4⟩ := Rq_n2 h
  have e : n' = n := (nI_eq (by omega) (by omega)).mp (h2.symm.trans hz)
  subst e
  obtain ⟨t', g1, g2, g3, e10, e9⟩ := mq_take (t := t) (q := 2) (n := n') (x := 2) (by decide) (by decide) hn (by omega) h3
  have h40 := h4 0 hn
  rw [Nat.add_zero, Nat.mod_eq_of_lt hf] at h40
  refine ⟨t.2 9 12, stI (stI z 7 (nI ((f + 1) % 4))) 8 (nI (n' - 1)), t', by rw [xq_take2 hf hn h1 h2, h40.1], g1, h40.2, rfl, ?_, ⟨fun q hq => rfl, rfl, rfl, fun q hq => g3 q (by omega) (by omega), by rw [g2]⟩, s1_e, rfl, rfl, rfl, rfl, rfl, g3 5 (by decide) (by decide), g2, fun h1 => by rw [e9, if_pos (by omega)]⟩
  · have hr := RQ_take (P := B01) (row' := fun j => t'.2 9 (12 + j)) hf hn (by omega) h4 (fun j hj => by
      show t'.2 9 (12 + j) = _
      rw [e9, if_pos (by omega)]; rfl)
    obtain ⟨hP, hM, hD, hT, hF, hme, q0, q1, q2, q3, q4, hS, hA, hV, ha, hb, la, lb, hs, hl, hW, pr, pm, pa, pw⟩ := h
    have a0 := g3 0 (by decide) (by decide); have a1 := g3 1 (by decide) (by decide); have a2 := g3 2 (by decide) (by decide); have a3 := g3 3 (by decide) (by decide); have a4 := g3 4 (by decide) (by decide); have a5 := g3 5 (by decide) (by decide); have a6 := g3 6 (by decide) (by decide); have a7 := g3 7 (by decide) (by decide); have a8 := g3 8 (by decide) (by decide)
    have b1 := g3 11 (by decide) (by decide); have b2 := g3 12 (by decide) (by decide); have b3 := g3 13 (by decide) (by decide); have b4 := g3 14 (by decide) (by decide); have b5 := g3 15 (by decide) (by decide); have b6 := g3 16 (by decide) (by decide)
    unfold RelG RelS
    rw [g2, a0, a1, a2, a3, a4, a5, a6, a7, a8, b1, b2, b3, b4, b5, b6]
    have hq : RQ B01 4 (nI ((f + 1) % 4)) (nI (n' - 1)) (z.2 14) (t'.2 10 2) (fun j => t'.2 9 (12 + j)) := by
      rw [e10]
      simp only [upd, if_true]
      exact hr
    exact ⟨hP, hM, hD, hT, hF, hme, (by rw [e10]; exact RQ_row (row' := fun j => t'.2 9 (0 + j)) q0 (fun j hj => by rw [e9, if_neg (by omega)])), (by rw [e10]; exact RQ_row (row' := fun j => t'.2 9 (6 + j)) q1 (fun j hj => by rw [e9, if_neg (by omega)])), hq, (by rw [e10]; exact RQ_row (row' := fun j => t'.2 9 (18 + j)) q3 (fun j hj => by rw [e9, if_neg (by omega)])), (by rw [e10]; exact RQ_row (row' := fun j => t'.2 9 (24 + j)) q4 (fun j hj => by rw [e9, if_neg (by omega)])), hS, hA, hV, ha, hb, la, lb, hs, hl, hW, pr, pm, pa, pw⟩
/-- queue 3: how long; put; take -/
theorem Rq_n3 {sb : Bool × Bool} {bd N : Nat} {z t : ST} (h : RelG sb bd N z t) : ∃ f n : Nat, f < 4 ∧ n ≤ 4 ∧ z.1 9 = nI f ∧ z.1 10 = nI n ∧ t.2 10 3 = nI n ∧ ∀ j, j < n → z.2 15 ((f + j) % 4) = t.2 9 (18 + j) ∧ B01 (t.2 9 (18 + j)) := by
  obtain ⟨hP, hM, hD, hT, hF, hme, q0, q1, q2, q3, q4, hS, hA, hV, ha, hb, la, lb, hs, hl, hW, pr, pm, pa, pw⟩ := h
  exact q3
theorem Rq_put3 {sb : Bool × Bool} {bd N n : Nat} {z t : ST} {v : Int32} (h : RelG sb bd N z t) (hn : n < 4) (hz : z.1 10 = nI n) (hv : B01 v) : ∃ z' t', x_Fifo_put_18 z v = some (0, z') ∧ m_put t 3 v = some (0, t') ∧ RelG sb bd N z' t' ∧ SP z z' t t' ∧ z'.1 10 = nI (n + 1) ∧ z'.1 15 = z.1 15 ∧ z'.1 18 = z.1 18 ∧ z'.1 17 = z.1 17 ∧ z'.2 20 = z.2 20 ∧ z'.2 21 = z.2 21 ∧ t'.2 5 = t.2 5 ∧ t'.1 3 = t.1 3 ∧ t'.1 5 = t.1 5 := by
  obtain ⟨f, n', hf, hn', h1, h2, h3, h4⟩ := Rq_n3 h
  have e : n' = n := (nI_eq (by omega) (by omega)).mp (h2.symm.trans hz)
  subst e
  refine ⟨_, _, xq_put3 hf hn h1 h2, mq_put (q := 3) (n := n') (by decide) (by decide) (by omega) h3, ?_, ⟨fun q hq => by rw [s1_2, s2_n (by omega)], rfl, rfl, fun q hq => by rw [s2_n (by omega), s2_n (by omega)], rfl⟩, s1_e, rfl, rfl, rfl, rfl, rfl, rfl, rfl, rfl⟩
  have hr := RQ_put (P := B01) (v := v) hf hn hv h4
  obtain ⟨hP, hM, hD, hT, hF, hme, q0, q1, q2, q3, q4, hS, hA, hV, ha, hb, la, lb, hs, hl, hW, pr, pm, pa, pw⟩ := h
  have hq : RQ B01 4 (z.1 9) (nI (n' + 1)) (upd (z.2 15) ((f + n') % 4) v) (nI (n' + 1)) (fun j => upd (t.2 9) (6 * 3 + n') v (18 + j)) := by
    rw [h1]
    refine RQ_row hr (fun j hj => ?_)
    simp only [upd]
    by_cases e : j = n'
    · subst e; simp
    · rw [if_neg (by omega), if_neg e]
  exact ⟨hP, hM, hD, hT, hF, hme, (RQ_row (row' := fun j => upd (t.2 9) (6 * 3 + n') v (0 + j)) q0 (fun j hj => by simp only [upd]; rw [if_neg (by omega)])), (RQ_row (row' := fun j => upd (t.2 9) (6 * 3 + n') v (6 + j)) q1 (fun j hj => by simp only [upd]; rw [if_neg (by omega)])), (RQ_row (row' := fun j => upd (t.2 9) (6 * 3 + n') v (12 + j)) q2 (fun j hj => by simp only [upd]; rw [if_neg (by omega)])), hq, (RQ_row (row' := fun j => upd (t.2 9) (6 * 3 + n') v (24 + j)) q4 (fun j hj => by simp only [upd]; rw [if_neg (by omega)])), hS, hA, hV, ha, hb, la, lb, hs, hl, hW, pr, pm, pa, pw⟩
theorem Rq_take3 {sb : Bool × Bool} {bd N n : Nat} {z t : ST} (h : RelG sb bd N z t) (hn : 0 < n) (hle : n ≤ 4) (hz : z.1 10 = nI n) : ∃ v z' t', x_Fifo_take_18 z = some (v, z') ∧ m_take t 3 = some (v, t') ∧ B01 v ∧ v = t.2 9 18 ∧ RelG sb bd N z' t' ∧ SP z z' t t' ∧ z'.1 10 = nI (n - 1) ∧ z'.1 15 = z.1 15 ∧ z'.1 18 = z.1 18 ∧ z'.1 17 = z.1 17 ∧ z'.2 20 = z.2 20 ∧ z'.2 21 = z.2 21 ∧ t'.2 5 = t.2 5 ∧ t'.1 = t.1 ∧ (1 < n → t'.2 9 18 = t.2 9 (18 + 1)) := by
  obtain ⟨f, n', hf, hn', h1, h2, h3, h4⟩ := Rq_n3 h
  have e : n' = n := (nI_eq (by omega) (by omega)).mp (h2.symm.trans hz)
  subst e
  obtain ⟨t', g1, g2, g3, e10, e9⟩ := mq_take (t := t) (q := 3) (n := n') (x := 3) (by decide) (by decide) hn (by omega) h3
  have h40 := h4 0 hn
  rw [Nat.add_zero, Nat.mod_eq_of_lt hf] at h40
  refine ⟨t.2 9 18, stI (stI z 9 (nI ((f + 1) % 4))) 10 (nI (n' - 1)), t', by rw [xq_take3 hf hn h1 h2, h40.1], g1, h40.2, rfl, ?_, ⟨fun q hq => rfl, rfl, rfl, fun q hq => g3 q (by omega) (by omega), by rw [g2]⟩, s1_e, rfl, rfl, rfl, rfl, rfl, g3 5 (by decide) (by decide), g2, fun h1 => by rw [e9, if_pos (by omega)]⟩
  · have hr := RQ_take (P := B01) (row' := fun j => t'.2 9 (18 + j)) hf hn (by omega) h4 (fun j hj => by
      show t'.2 9 (18 + j) = _
      rw [e9, if_pos (by omega)]; rfl)
    obtain ⟨hP, hM, hD, hT, hF, hme, q0, q1, q2, q3, q4, hS, hA, hV, ha, hb, la, lb, hs, hl, hW, pr, pm, pa, pw⟩ := h
    have a0 := g3 0 (by decide) (by decide); have a1 := g3 1 (by decide) (by decide); have a2 := g3 2 (by decide) (by decide); have a3 := g3 3 (by decide) (by decide); have a4 := g3 4 (by decide) (by decide); have a5 := g3 5 (by decide) (by decide); have a6 := g3 6 (by decide) (by decide); have a7 := g3 7 (by decide) (by decide); have a8 := g3 8 (by decide) (by decide)
    have b1 := g3 11 (by decide) (by decide); have b2 := g3 12 (by decide) (by decide); have b3 := g3 13 (by decide) (by decide); have b4 := g3 14 (by decide) (by decide); have b5 := g3 15 (by decide) (by decide); have b6 := g3 16 (by decide) (by decide)
    unfold RelG RelS
    rw [g2, a0, a1, a2, a3, a4, a5, a6, a7, a8, b1, b2, b3, b4, b5, b6]
    have hq : RQ B01 4 (nI ((f + 1) % 4)) (nI (n' - 1)) (z.2 15) (t'.2 10 3) (fun j => t'.2 9 (18 + j)) := by
      rw [e10]
      simp only [upd, if_true]
      exact hr
    exact ⟨hP, hM, hD, hT, hF, hme, (by rw [e10]; exact RQ_row (row' := fun j => t'.2 9 (0 + j)) q0 (fun j hj => by rw [e9, if_neg (by omega)])), (by rw [e10]; exact RQ_row (row' := fun j => t'.2 9 (6 + j)) q1 (fun j hj => by rw [e9, if_neg (by omega)])), (by rw [e10]; exact RQ_row (row' := fun j => t'.2 9 (12 + j)) q2 (fun j hj => by rw [e9, if_neg (by omega)])), hq, (by rw [e10]; exact RQ_row (row' := fun j => t'.2 9 (24 + j)) q4 (fun j hj => by rw [e9, if_neg (by omega)])), hS, hA, hV, ha, hb, la, lb, hs, hl, hW, pr, pm, pa, pw⟩
/-- queue 4: how long; put; take -/
theorem Rq_n4 {sb : Bool × Bool} {bd N : Nat} {z t : ST} (h : RelG sb bd N z t) : ∃ f n : Nat, f < 6 ∧ n ≤ 6 ∧ z.1 11 = nI f ∧ z.1 12 = nI n ∧ t.2 10 4 = nI n ∧ ∀ j, j < n → z.2 16 ((f + j) % 6) = t.2 9 (24 + j) ∧ (fun _ => True) (t.2 9 (24 + j)) := by
  obtain ⟨hP, hM, hD, hT, hF, hme, q0, q1, q2, q3, q4, hS, hA, hV, ha, hb, la, lb, hs, hl, hW, pr, pm, pa, pw⟩ := h
  exact q4
theorem Rq_put4 {sb : Bool × Bool} {bd N n : Nat} {z t : ST} {v : Int32} (h : RelG sb bd N z t) (hn : n < 6) (hz : z.1 12 = nI n) (hv : (fun _ => True) v) : ∃ z' t', x_Fifo_put_19 z v = some (0, z') ∧ m_put t 4 v = some (0, t') ∧ RelG sb bd N z' t' ∧ SP z z' t t' ∧ z'.1 12 = nI (n + 1) ∧ z'.1 15 = z.1 15 ∧ z'.1 18 = z.1 18 ∧ z'.1 17 = z.1 17 ∧ z'.2 20 = z.2 20 ∧ z'.2 21 = z.2 21 ∧ t'.2 5 = t.2 5 ∧ t'.1 3 = t.1 3 ∧ t'.1 5 = t.1 5 := by
  obtain ⟨f, n', hf, hn', h1, h2, h3, h4⟩ := Rq_n4 h
  have e : n' = n := (nI_eq (by omega) (by omega)).mp (h2.symm.trans hz)
  subst e
  refine ⟨_, _, xq_put4 hf hn h1 h2, mq_put (q := 4) (n := n') (by decide) (by decide) (by omega) h3, ?_, ⟨fun q hq => by rw [s1_2, s2_n (by omega)], rfl, rfl, fun q hq => by rw [s2_n (by omega), s2_n (by omega)], rfl⟩, s1_e, rfl, rfl, rfl, rfl, rfl, rfl, rfl, rfl⟩
  have hr := RQ_put (P := (fun _ => True)) (v := v) hf hn hv h4
  obtain ⟨hP, hM, hD, hT, hF, hme, q0, q1, q2, q3, q4, hS, hA, hV, ha, hb, la, lb, hs, hl, hW, pr, pm, pa, pw⟩ := h
  have hq : RQ (fun _ => True) 6 (z.1 11) (nI (n' + 1)) (upd (z.2 16) ((f + n') % 6) v) (nI (n' + 1)) (fun j => upd (t.2 9) (6 * 4 + n') v (24 + j)) := by
    rw [h1]
    refine RQ_row hr (fun j hj => ?_)
    simp only [upd]
    by_cases e : j = n'
    · subst e; simp
    · rw [if_neg (by omega), if_neg e]
  exact ⟨hP, hM, hD, hT, hF, hme, (RQ_row (row' := fun j => upd (t.2 9) (6 * 4 + n') v (0 + j)) q0 (fun j hj => by simp only [upd]; rw [if_neg (by omega)])), (RQ_row (row' := fun j => upd (t.2 9) (6 * 4 + n') v (6 + j)) q1 (fun j hj => by simp only [upd]; rw [if_neg (by omega)])), (RQ_row (row' := fun j => upd (t.2 9) (6 * 4 + n') v (12 + j)) q2 (fun j hj => by simp only [upd]; rw [if_neg (by omega)])), (RQ_row (row' := fun j => upd (t.2 9) (6 * 4 + n') v (18 + j)) q3 (fun j hj => by simp only [upd]; rw [if_neg (by omega)])), hq, hS, hA, hV, ha, hb, la, lb, hs, hl, hW, pr, pm, pa, pw⟩
theorem Rq_take4 {sb : Bool × Bool} {bd N n : Nat} {z t : ST} (h : RelG sb bd N z t) (hn : 0 < n) (hle : n ≤ 6) (hz : z.1 12 = nI n) : ∃ v z' t', x_Fifo_take_19 z = some (v, z') ∧ m_take t 4 = some (v, t') ∧ (fun _ => True) v ∧ v = t.2 9 24 ∧ RelG sb bd N z' t' ∧ SP z z' t t' ∧ z'.1 12 = nI (n - 1) ∧ z'.1 15 = z.1 15 ∧ z'.1 18 = z.1 18 ∧ z'.1 17 = z.1 17 ∧ z'.2 20 = z.2 20 ∧ z'.2 21 = z.2 21 ∧ t'.2 5 = t.2 5 ∧ t'.1 = t.1 ∧ (1 < n → t'.2 9 24 = t.2 9 (24 + 1)) := by
  obtain ⟨f, n', hf, hn', h1, h2, h3, h4⟩ := Rq_n4 h
  have e : n' = n := (nI_eq (by omega) (by omega)).mp (h2.symm.trans hz)
  subst e
  obtain ⟨t', g1, g2, g3, e10, e9⟩ := mq_take (t := t) (q := 4) (n := n') (x := 4) (by decide) (by decide) hn (by omega) h3
  have h40 := h4 0 hn
  rw [Nat.add_zero, Nat.mod_eq_of_lt hf] at h40
  refine ⟨t.2 9 24, stI (stI z 11 (nI ((f + 1) % 6))) 12 (nI (n' - 1)), t', by rw [xq_take4 hf hn h1 h2, h40.1], g1, h40.2, rfl, ?_, ⟨fun q hq => rfl, rfl, rfl, fun q hq => g3 q (by omega) (by omega), by rw [g2]⟩, s1_e, rfl, rfl, rfl, rfl, rfl, g3 5 (by decide) (by decide), g2, fun h1 => by rw [e9, if_pos (by omega)]⟩
  · have hr := RQ_take (P := (fun _ => True)) (row' := fun j => t'.2 9 (24 + j)) hf hn (by omega) h4 (fun j hj => by
      show t'.2 9 (24 + j) = _
      rw [e9, if_pos (by omega)]; rfl)
    obtain ⟨hP, hM, hD, hT, hF, hme, q0, q1, q2, q3, q4, hS, hA, hV, ha, hb, la, lb, hs, hl, hW, pr, pm, pa, pw⟩ := h
    have a0 := g3 0 (by decide) (by decide); have a1 := g3 1 (by decide) (by decide); have a2 := g3 2 (by decide) (by decide); have a3 := g3 3 (by decide) (by decide); have a4 := g3 4 (by decide) (by decide); have a5 := g3 5 (by decide) (by decide); have a6 := g3 6 (by decide) (by decide); have a7 := g3 7 (by decide) (by decide); have a8 := g3 8 (by decide) (by decide)
    have b1 := g3 11 (by decide) (by decide); have b2 := g3 12 (by decide) (by decide); have b3 := g3 13 (by decide) (by decide); have b4 := g3 14 (by decide) (by decide); have b5 := g3 15 (by decide) (by decide); have b6 := g3 16 (by decide) (by decide)
    unfold RelG RelS
    rw [g2, a0, a1, a2, a3, a4, a5, a6, a7, a8, b1, b2, b3, b4, b5, b6]
    have hq : RQ (fun _ => True) 6 (nI ((f + 1) % 6)) (nI (n' - 1)) (z.2 16) (t'.2 10 4) (fun j => t'.2 9 (24 + j)) := by
      rw [e10]
      simp only [upd, if_true]
      exact hr
    exact ⟨hP, hM, hD, hT, hF, hme, (by rw [e10]; exact RQ_row (row' := fun j => t'.2 9 (0 + j)) q0 (fun j hj => by rw [e9, if_neg (by omega)])), (by rw [e10]; exact RQ_row (row' := fun j => t'.2 9 (6 + j)) q1 (fun j hj => by rw [e9, if_neg (by omega)])), (by rw [e10]; exact RQ_row (row' := fun j => t'.2 9 (12 + j)) q2 (fun j hj => by rw [e9, if_neg (by omega)])), (by rw [e10]; exact RQ_row (row' := fun j => t'.2 9 (18 + j)) q3 (fun j hj => by rw [e9, if_neg (by omega)])), hq, hS, hA, hV, ha, hb, la, lb, hs, hl, hW, pr, pm, pa, pw⟩
