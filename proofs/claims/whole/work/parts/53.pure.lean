def inL (sa : Nat → Int32) (a : Int32) : Nat → Bool
  | 0 => false
  | n + 1 => inL sa a n || (sa n == a)
theorem inL_up {sa : Nat → Int32} {a : Int32} {i : Nat} : ∀ n, i < n → sa i = a → inL sa a n = true := by
  intro n
  induction n with
  | zero => intro h; omega
  | succ n ih =>
    intro h e
    simp only [inL]
    by_cases hi : i = n
    · subst hi; simp [e]
    · rw [ih (by omega) e]; rfl
theorem slot_s {z : ST} {f j : Nat} {x : Int32} (h : z.1 13 = nI f) (hx : x = nI j) (hf : f < 6) (hj : j ≤ 6) : x_StoreList_slot_25 z x = some (nI ((f + j) % 6), z) := by
  simp only [x_StoreList_slot_25, h, hx, nI_add]
  rw [show (6 : Int32) = nI 6 by decide, pk_rem (by omega) (by decide) (by decide)]
theorem x_holds_s {z : ST} {f n : Nat} {sa : Nat → Int32} {a : Int32} (hf : f < 6) (hn : n ≤ 6) (h1 : z.1 13 = nI f) (h2 : z.1 14 = nI n) (h3 : ∀ j, j < n → z.2 17 ((f + j) % 6) = sa j) : x_StoreList_holds_25 z a = some (if inL sa a n = true then 1 else 0, z) := by
  have key : ∀ (m i : Nat), i + m = n → inL sa a i = false → ∀ r, x_StoreList_holds_25_f (r + (m + 1)) 1 z a (nI i) = some (if inL sa a n = true then 1 else 0, z) := by
    intro m
    induction m with
    | zero =>
      intro i hi hz r
      have e : i = n := by omega
      subst e
      show x_StoreList_holds_25_g2 (x_StoreList_holds_25_f r) z a (nI i) = _
      simp only [x_StoreList_holds_25_g2, h2, gib_0]
      rw [if_pos (nI_le (Nat.le_refl _) (by omega)), hz]
      rfl
    | succ m ih =>
      intro i hi hz r
      show x_StoreList_holds_25_g2 (x_StoreList_holds_25_f (r + (m + 1))) z a (nI i) = _
      have hm := Nat.mod_lt (f + i) (show 0 < 6 by decide)
      simp only [x_StoreList_holds_25_g2, h2, gib_0, gib_1, slot_s h1 rfl hf (show i ≤ 6 by omega), obn_s, gin_n hm (by decide : 6 < 2 ^ 31), cl_n (show (f + i) % 6 < 2 ^ 31 by omega), h3 i (by omega), nI_1]
      rw [if_neg (nI_ge (by omega) (by omega))]
      by_cases e : sa i = a
      · rw [if_pos e, inL_up n (by omega) e]; rfl
      · rw [if_neg e]
        refine ih (i + 1) (by omega) ?_ r
        simp only [inL, hz]
        simp [e]
  have k := key n 0 (by omega) rfl (4000 - 2 - n)
  rw [show 4000 - 2 - n + (n + 1) = 3999 by omega, nI_0] at k
  show x_StoreList_holds_25_g0 (x_StoreList_holds_25_f 3999) z a 0 = _
  simp only [x_StoreList_holds_25_g0]
  exact k
theorem m_inList_s {t : ST} {n : Nat} {a : Int32} (hn : n ≤ 6) (h2 : t.1 6 = nI n) : m_isInList t a = some (if inL (t.2 11) a n = true then 1 else 0, t) := by
  have key : ∀ (m i : Nat), i + m = n → ∃ c, c ≤ 3 * m + 1 ∧ ∀ r, m_isInList_f (r + c) 1 t a (if inL (t.2 11) a i = true then 1 else 0) (nI i) 0 = some (if inL (t.2 11) a n = true then 1 else 0, t) := by
    intro m
    induction m with
    | zero =>
      intro i hi
      have e : i = n := by omega
      subst e
      refine ⟨1, by omega, fun r => ?_⟩
      show m_isInList_g4 (m_isInList_f r) t a _ (nI i) 0 = _
      simp only [m_isInList_g4, h2]
      rw [if_pos (nI_le (Nat.le_refl _) (by omega))]
      cases inL (t.2 11) a i <;> rfl
    | succ m ih =>
      intro i hi
      obtain ⟨c, hc, k⟩ := ih (i + 1) (by omega)
      have g31 : ∀ (r : Nat) (y2 y4 : Int32), m_isInList_f (r + 1) 3 t a y2 (nI i) y4 = m_isInList_f r 1 t a y4 (nI (i + 1)) 0 := by
        intro r y2 y4
        show m_isInList_g31 (m_isInList_f r) t a y2 (nI i) y4 = _
        simp only [m_isInList_g31, nI_1]
      have g26 : ∀ (r : Nat) (y2 y4 : Int32), m_isInList_f (r + 1) 2 t a y2 (nI i) y4 = m_isInList_f r 3 t a y2 (nI i) 1 := fun r y2 y4 => rfl
      cases hz : inL (t.2 11) a i with
      | true =>
        refine ⟨c + 3, by omega, fun r => ?_⟩
        have e1 : inL (t.2 11) a (i + 1) = true := by simp [inL, hz]
        rw [← k r, e1]
        show m_isInList_g4 (m_isInList_f (r + c + 2)) t a _ (nI i) 0 = _
        simp (decide := true) only [m_isInList_g4, h2, if_true, if_false]
        rw [if_neg (nI_ge (by omega) (by omega)), g26, g31]
      | false =>
        by_cases e : t.2 11 i = a
        · refine ⟨c + 3, by omega, fun r => ?_⟩
          have e1 : inL (t.2 11) a (i + 1) = true := by simp [inL, e]
          rw [← k r, e1]
          show m_isInList_g4 (m_isInList_f (r + c + 2)) t a _ (nI i) 0 = _
          simp (decide := true) only [m_isInList_g4, h2, if_true, if_false, gin_n (show i < 6 by omega) (by decide : 6 < 2 ^ 31), cl_n (show i < 2 ^ 31 by omega), e, Bool.false_eq_true]
          rw [if_neg (nI_ge (by omega) (by omega)), g26, g31]
        · refine ⟨c + 2, by omega, fun r => ?_⟩
          have e1 : inL (t.2 11) a (i + 1) = false := by simp [inL, hz, e]
          rw [← k r, e1]
          show m_isInList_g4 (m_isInList_f (r + c + 1)) t a _ (nI i) 0 = _
          simp (decide := true) only [m_isInList_g4, h2, if_true, if_false, gin_n (show i < 6 by omega) (by decide : 6 < 2 ^ 31), cl_n (show i < 2 ^ 31 by omega), e, Bool.false_eq_true]
          rw [if_neg (nI_ge (by omega) (by omega)), g31]
  obtain ⟨c, hc, k⟩ := key n 0 (by omega)
  have k := k (4000 - 1 - c)
  rw [show 4000 - 1 - c + c = 3999 by omega, nI_0] at k
  simp only [show inL (t.2 11) a 0 = false from rfl, Bool.false_eq_true, if_false] at k
  show m_isInList_g0 (m_isInList_f 3999) t a 0 0 0 = _
  simp only [m_isInList_g0]
  exact k
/-- the list's front goes, all else moves up -/
theorem md_shift {n : Nat} (hn : n ≤ 5) : ∀ (m i : Nat) (t : ST), i + m = n → t.1 6 = nI n → (∀ j, j ≤ n → B01 (t.2 13 j)) → ∃ t', (∀ r, m_drain_f (r + (m + 1)) 1 t (nI i) = m_drain_f r 0 t' 0) ∧ t'.1 = t.1 ∧ (∀ k, k ≠ 11 → k ≠ 12 → k ≠ 13 → t'.2 k = t.2 k) ∧ ∀ j, (t'.2 11 j = if i ≤ j ∧ j < n then t.2 11 (j + 1) else t.2 11 j) ∧ (t'.2 12 j = if i ≤ j ∧ j < n then t.2 12 (j + 1) else t.2 12 j) ∧ (t'.2 13 j = if i ≤ j ∧ j < n then t.2 13 (j + 1) else t.2 13 j) := by
  intro m
  induction m with
  | zero =>
    intro i t hi h hb
    have e : i = n := by omega
    subst e
    refine ⟨t, fun r => ?_, rfl, fun _ _ _ _ => rfl, fun j => ?_⟩
    · show m_drain_g45 (m_drain_f r) t (nI i) = _
      simp only [m_drain_g45, h]
      rw [if_pos (nI_le (Nat.le_refl _) (by omega))]
    · rw [if_neg (by omega), if_neg (by omega), if_neg (by omega)]; exact ⟨rfl, rfl, rfl⟩
  | succ m ih =>
    intro i t hi h hb
    have hb1 := hb (i + 1) (by omega)
    obtain ⟨t', k1, k2, k3, k4⟩ := ih (i + 1) (stA (stA (stA t 11 (upd (t.2 11) i (t.2 11 (i + 1)))) 12 (upd (t.2 12) i (t.2 12 (i + 1)))) 13 (upd (t.2 13) i (t.2 13 (i + 1)))) (by omega) h (fun j hj => by
      rw [s2_e]
      simp only [upd]
      split
      · exact hb1
      · exact hb j hj)
    refine ⟨t', fun r => ?_, k2, fun k h1 h2 h3 => by rw [k3 k h1 h2 h3, s2_n h3, s2_n h2, s2_n h1], fun j => ?_⟩
    · rw [← k1 r]
      show m_drain_g45 (m_drain_f (r + (m + 1))) t (nI i) = _
      simp only [m_drain_g45, h, nI_1, gin_n (show i < 6 by omega) (by decide : 6 < 2 ^ 31), gin_n (show i + 1 < 6 by omega) (by decide : 6 < 2 ^ 31), cl_n (show i < 2 ^ 31 by omega), cl_n (show i + 1 < 2 ^ 31 by omega), bnd_s]
      rw [if_neg (nI_ge (by omega) (by omega))]
      have e : (stA (stA t 11 (upd (t.2 11) i (t.2 11 (i + 1)))) 12 (upd ((stA t 11 (upd (t.2 11) i (t.2 11 (i + 1)))).2 12) i ((stA t 11 (upd (t.2 11) i (t.2 11 (i + 1)))).2 12 (i + 1)))).2 13 = t.2 13 := rfl
      rw [e]
      unfold gib
      rw [if_pos (by rcases hb1 with q | q <;> rw [q] <;> rfl)]
      rfl
    · obtain ⟨j1, j2, j3⟩ := k4 j
      rw [j1, j2, j3]
      have e : ∀ g : Nat → Int32, (if i + 1 ≤ j ∧ j < n then upd g i (g (i + 1)) (j + 1) else upd g i (g (i + 1)) j) = if i ≤ j ∧ j < n then g (j + 1) else g j := by
        intro g
        simp only [upd]
        by_cases e1 : j = i
        · subst e1; rw [if_neg (by omega), if_pos rfl, if_pos (by omega)]
        · by_cases e2 : i + 1 ≤ j ∧ j < n
          · rw [if_pos e2, if_neg (by omega), if_pos (by omega)]
          · rw [if_neg e2, if_neg e1, if_neg (by omega)]
      exact ⟨e _, e _, e _⟩
/-- the list is written out as far as it goes -/
def LD (z z' t t' : ST) : Prop := (∀ q, q ≠ 13 → q ≠ 14 → z'.1 q = z.1 q) ∧ (∀ q, q ≠ 11 → z'.2 q = z.2 q) ∧ (∀ q, q ≠ 6 → t'.1 q = t.1 q) ∧ ∀ q, q ≠ 8 → q ≠ 11 → q ≠ 12 → q ≠ 13 → t'.2 q = t.2 q
theorem LD.rf {z t : ST} : LD z z t t := ⟨fun _ _ _ => rfl, fun _ _ => rfl, fun _ _ => rfl, fun _ _ _ _ _ => rfl⟩
theorem LD.tr {z z1 z2 t t1 t2 : ST} (h : LD z z1 t t1) (k : LD z1 z2 t1 t2) : LD z z2 t t2 := ⟨fun q a b => (k.1 q a b).trans (h.1 q a b), fun q a => (k.2.1 q a).trans (h.2.1 q a), fun q a => (k.2.2.1 q a).trans (h.2.2.1 q a), fun q a b c d => (k.2.2.2 q a b c d).trans (h.2.2.2 q a b c d)⟩
theorem L_drain {bd N : Nat} {y1 y2 : Int32} : ∀ (n : Nat) (z t : ST), RelS false (true, true) bd N z t → z.1 14 = nI n → n ≤ 6 → ∃ c z' t', c ≤ 8 * n + 1 ∧ (∀ r, x_StoreList_know_25_f (r + (n + 1)) 1 z y1 y2 = some (0, z')) ∧ (∀ r, m_drain_f (r + c) 0 t 0 = some (0, t')) ∧ RelS true (true, true) bd N z' t' ∧ LD z z' t t' := by
  intro n
  induction n with
  | zero =>
    intro z t h hz hn
    have hx : ∀ r, x_StoreList_know_25_f (r + 1) 1 z y1 y2 = some (0, z) := by
      intro r
      show x_StoreList_know_25_g14 (x_StoreList_know_25_f r) z y1 y2 = _
      simp only [x_StoreList_know_25_g14, hz]
      rw [if_pos (by decide)]
    obtain ⟨hP, hM, hD, hT, hF, hme, q0, q1, q2, q3, q4, hS, hA, hV, ha, hb, la, lb, hs, hl, hW, pr, pm, pa, pw⟩ := h
    obtain ⟨f, n', hf, hn', e1, e2, e3, e4, e5⟩ := hS
    have en : n' = 0 := (nI_eq (by omega) (by omega)).mp (e2.symm.trans hz)
    subst en
    refine ⟨1, z, t, by omega, hx, fun r => ?_, ?_, LD.rf⟩
    · show m_drain_g0 (m_drain_f r) t 0 = _
      simp only [m_drain_g0, e3]
      rw [if_pos (by decide)]
    · have hS : RS true (z.1 13) (z.1 14) (z.2 17) (z.2 18) (z.2 19) (t.1 6) (t.2 11) (t.2 12) (t.2 13) := ⟨f, 0, hf, by omega, e1, e2, e3, fun j hj => by omega, fun _ h => by omega⟩
      exact ⟨hP, hM, hD, hT, hF, hme, q0, q1, q2, q3, q4, hS, hA, hV, ha, hb, la, lb, hs, hl, hW, pr, pm, pa, pw⟩
  | succ n ih =>
    intro z t h hz hn
    have h0 := h
    obtain ⟨hP, hM, hD, hT, hF, hme, q0, q1, q2, q3, q4, hS, hA, hV, ha, hb, la, lb, hs, hl, hW, pr, pm, pa, pw⟩ := h
    obtain ⟨f, n', hf, hn', e1, e2, e3, e4, e5⟩ := hS
    have en : n' = n + 1 := (nI_eq (by omega) (by omega)).mp (e2.symm.trans hz)
    subst en
    have e40 := e4 0 (by omega)
    rw [Nat.add_zero, Nat.mod_eq_of_lt hf] at e40
    obtain ⟨c1, ⟨w, hw, c2⟩, c3, c4, c5⟩ := e40
    by_cases hk : t.2 13 0 = 0
    · refine ⟨1, z, t, by omega, fun r => ?_, fun r => ?_, ?_, LD.rf⟩
      · show x_StoreList_know_25_g14 (x_StoreList_know_25_f (r + (n + 1))) z y1 y2 = _
        simp only [x_StoreList_know_25_g14, hz, e1, gin_n hf (by decide : 6 < 2 ^ 31), cl_n (show f < 2 ^ 31 by omega), c3]
        rw [if_neg (nI_nle (by omega) (by omega)), if_pos hk]
      · show m_drain_g0 (m_drain_f r) t 0 = _
        simp only [m_drain_g0, e3, gin_r (show inR (0 : Int32) 6 = true by decide), show (0 : Int32).toNatClampNeg = 0 by decide]
        rw [if_neg (nI_nle (by omega) (by omega)), if_pos hk]
      · have hS : RS true (z.1 13) (z.1 14) (z.2 17) (z.2 18) (z.2 19) (t.1 6) (t.2 11) (t.2 12) (t.2 13) := ⟨f, n + 1, hf, by omega, e1, e2, e3, e4, fun _ _ => hk⟩
        exact ⟨hP, hM, hD, hT, hF, hme, q0, q1, q2, q3, q4, hS, hA, hV, ha, hb, la, lb, hs, hl, hW, pr, pm, pa, pw⟩
    · have hk1 : t.2 13 0 = 1 := by
        rcases c4 with q | q
        · exact absurd q hk
        · exact q
      have hv := c5 hk1
      obtain ⟨t1, k1, k2, k3, k4⟩ := md_shift (n := n) (by omega) n 0 (stI (stA t 8 (upd (t.2 8) w (t.2 12 0))) 6 (nI n)) (by omega) s1_e (fun j hj => (e4 j (by omega)).2.2.2.1)
      have g : RelS false (true, true) bd N (stI (stI (stA z 11 (upd (z.2 11) w (z.2 18 f))) 13 (nI ((f + 1) % 6))) 14 (nI n)) t1 := by
        have me : eqB 32 0 (upd (z.2 11) w (z.2 18 f)) (upd (t.2 8) w (t.2 12 0)) := by
          intro j hj
          rw [hv]
          simp only [upd, Nat.zero_add]
          split
          · rfl
          · have := hme j hj
            rw [Nat.zero_add] at this
            exact this
        have hS' : RS false (nI ((f + 1) % 6)) (nI n) (z.2 17) (z.2 18) (z.2 19) (nI n) (t1.2 11) (t1.2 12) (t1.2 13) := by
          refine ⟨(f + 1) % 6, n, Nat.mod_lt _ (by decide), by omega, rfl, rfl, rfl, fun j hj => ?_, fun h => by cases h⟩
          obtain ⟨j1, j2, j3⟩ := k4 j
          rw [if_pos (by omega)] at j1 j2 j3
          rw [j1, j2, j3, Nat.mod_add_mod, Nat.add_assoc, Nat.add_comm 1 j]
          exact e4 (j + 1) (by omega)
        have a0 := k3 0 (by decide) (by decide) (by decide); have a1 := k3 1 (by decide) (by decide) (by decide); have a2 := k3 2 (by decide) (by decide) (by decide); have a3 := k3 3 (by decide) (by decide) (by decide); have a4 := k3 4 (by decide) (by decide) (by decide); have a5 := k3 5 (by decide) (by decide) (by decide); have a6 := k3 6 (by decide) (by decide) (by decide); have a7 := k3 7 (by decide) (by decide) (by decide); have a8 := k3 8 (by decide) (by decide) (by decide); have a9 := k3 9 (by decide) (by decide) (by decide); have a10 := k3 10 (by decide) (by decide) (by decide); have b4 := k3 14 (by decide) (by decide) (by decide); have b5 := k3 15 (by decide) (by decide) (by decide); have b6 := k3 16 (by decide) (by decide) (by decide)
        unfold RelS
        rw [k2, a0, a1, a2, a3, a4, a5, a6, a7, a8, a9, a10, b4, b5, b6]
        exact ⟨hP, hM, hD, hT, hF, me, q0, q1, q2, q3, q4, hS', hA, hV, ha, hb, la, lb, hs, hl, hW, pr, pm, pa, pw⟩
      obtain ⟨c, z', t', g1, g2, g3, g4, g5⟩ := ih _ _ g s1_e (by omega)
      refine ⟨c + (n + 1) + 1, z', t', by omega, fun r => ?_, fun r => ?_, g4, LD.tr ⟨fun q q1 q2 => by rw [s1_n q2, s1_n q1, s2_1], fun q q1 => by rw [s1_2, s1_2, s2_n q1], fun q q1 => by rw [k2, s1_n q1, s2_1], fun q q1 q2 q3 q4 => by rw [k3 q q2 q3 q4, s1_2, s2_n q1]⟩ g5⟩
      · rw [← g2 r]
        show x_StoreList_know_25_g14 (x_StoreList_know_25_f (r + (n + 1))) z y1 y2 = _
        simp only [x_StoreList_know_25_g14, hz, e1, gin_n hf (by decide : 6 < 2 ^ 31), cl_n (show f < 2 ^ 31 by omega), c3, c1, c2, gin_n hw (by decide : 32 < 2 ^ 31), cl_n (show w < 2 ^ 31 by omega), bnd_s, s2_1, nI_1]
        rw [if_neg (nI_nle (by omega) (by omega)), if_neg hk, show (6 : Int32) = nI 6 by decide, pk_rem (by omega) (by decide) (by decide), s1_n (by decide), s2_1, hz, nI_pred]
      · rw [← g3 r]
        show m_drain_g0 (m_drain_f (r + (c + (n + 1)))) t 0 = _
        simp only [m_drain_g0, e3, gin_r (show inR (0 : Int32) 6 = true by decide), show (0 : Int32).toNatClampNeg = 0 by decide, c2, gin_n hw (by decide : 32 < 2 ^ 31), cl_n (show w < 2 ^ 31 by omega), bnd_s, s2_1]
        rw [if_neg (nI_nle (by omega) (by omega)), if_neg hk, nI_pred]
        have e := k1 (r + c)
        rw [nI_0] at e
        rw [← e, Nat.add_assoc]
