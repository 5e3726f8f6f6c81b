-- the reference's way
def onlyA (k : Nat) (z z' : ST) : Prop := z'.1 = z.1 ∧ ∀ q, q ≠ k → z'.2 q = z.2 q
theorem onlyA.rf {k : Nat} {z : ST} : onlyA k z z := ⟨rfl, fun _ _ => rfl⟩
theorem onlyA.tr {k : Nat} {z z1 z2 : ST} (h : onlyA k z z1) (h2 : onlyA k z1 z2) : onlyA k z z2 := ⟨h2.1.trans h.1, fun q hq => (h2.2 q hq).trans (h.2 q hq)⟩
theorem onlyA.st {k : Nat} {z : ST} {g : Nat → Int32} : onlyA k z (stA z k g) := ⟨rfl, fun q hq => s2_n hq⟩
theorem DK_set {d : Nat → Int32} {S : Nat → Bool} {b : Nat} (h : DK d S) : DK (upd d b 1) (setT S b) := by
  intro q hq
  by_cases e : q = b
  · rw [e, setT_me]
    simp [upd]
  · have h2 : setT S b q = S q := by simp [setT, e]
    rw [h2]
    simp only [upd, if_neg e]
    exact h q hq
def okR (k : Int32) : Prop := k = 0 ∨ k = 1 ∨ k = 2 ∨ k = 3 ∨ k = 4 ∨ k = 5 ∨ k = 6 ∨ k = 7 ∨ k = 8
def isArB (k : Int32) : Bool := k == 1 || k == 2 || k == 3
theorem isArB_s {k : Int32} : isArB k = true ↔ isAr k := by
  simp [isArB, isAr, or_assoc]
theorem mr_0 : ∀ (m i : Nat) (z : ST), i + m = 8 → (∀ q, q < i → z.2 4 q = 0) → ∃ z', (∀ r, m_slice_f (r + (m + 1)) 1 z (nI i) 0 0 = m_slice_f r 2 z' 0 0 0) ∧ onlyA 4 z z' ∧ DK (z'.2 4) (fun _ => false) := by
  intro m
  induction m with
  | zero =>
    intro i z hi hz
    have e : i = 8 := by omega
    subst e
    refine ⟨z, fun r => ?_, onlyA.rf, fun q hq => by rw [hz q hq]; rfl⟩
    show m_slice_g2 (m_slice_f r) z (nI 8) 0 0 = _
    simp only [m_slice_g2]
    rw [if_pos (by decide)]
  | succ m ih =>
    intro i z hi hz
    obtain ⟨z', h1, h2, h3⟩ := ih (i + 1) (stA z 4 (upd (z.2 4) i 0)) (by omega) (fun q hq => by
      rw [s2_e]
      simp only [upd]
      split
      · rfl
      · exact hz q (by omega))
    refine ⟨z', fun r => ?_, onlyA.st.tr h2, h3⟩
    rw [← h1 r]
    show m_slice_g2 (m_slice_f (r + (m + 1))) z (nI i) 0 0 = _
    simp only [m_slice_g2, gin_n (show i < 8 by omega) (by decide : 8 < 2 ^ 31), cl_n (show i < 2 ^ 31 by omega), gib_0, bnd_s, nI_1]
    rw [if_neg (by rw [show (8 : Int32) = nI 8 by decide]; exact nI_ge (by omega) (by omega))]
theorem reck_ar {k : Int32} : okR k → ((if k ≤ 0 then (0 : Int32) else if 4 ≤ k then 0 else 1) = 0 ↔ ¬ isAr k) := by
  intro h
  rcases h with h | h | h | h | h | h | h | h | h <;> (subst h; unfold isAr; decide)
theorem okI_k {k a b c : Int32} (h : okI k a b c) : okR k := by
  obtain ⟨-, ho⟩ := h
  unfold okR
  rcases ho with hk | hk | ⟨hk | hk | hk, -⟩ | ⟨hk | hk, -⟩ | ⟨hk | hk, -⟩ <;> simp [hk]
/-- one instruction -/
theorem mr_1 {N : Nat} (hN : N ≤ 24) {ρ i : Nat} {z : ST} (hi : i < N) (h1 : z.1 0 = nI N) (ho : okI (z.2 0 i) (z.2 1 i) (z.2 2 i) (z.2 3 i)) {S : Nat → Bool} (hd : DK (z.2 4) S) :
    ∃ c z', c ≤ 6 ∧ (∀ r, m_slice_f (r + c) 3 z (nI ρ) (nI i) 0 = m_slice_f r 3 z' (nI ρ) (nI (i + 1)) 0) ∧ onlyA 4 z z' ∧ DK (z'.2 4) (stR (z.2 0) (z.2 1) (z.2 2) (z.2 3) i S) := by
  have hi24 : i < 24 := by omega
  have hcl : (nI i).toNatClampNeg = i := cl_n (by omega)
  obtain ⟨a, ha, hae, hac⟩ := R8_lt ho.1
  obtain ⟨ia, -, -, -, hai, -⟩ := R8_cl ho.1
  have hda := hd a ha
  have h31 : ∀ k, m_slice_g31 k z (nI ρ) (nI i) 0 = if isArB (z.2 0 i) = true then (if S a = true then k 5 z (nI ρ) (nI i) 1 else k 4 z (nI ρ) (nI i) 0) else k 4 z (nI ρ) (nI i) 0 := by
    intro k
    simp only [m_slice_g31, h1, gin_n hi24 (by decide : 24 < 2 ^ 31), hcl, m_reckons_s, obn_s, gin_r hai, hac, hda]
    rw [if_neg (nI_ge (by omega) (by omega))]
    have e := reck_ar (okI_k ho)
    by_cases hr : isArB (z.2 0 i) = true
    · rw [if_pos hr, if_neg (fun h => (e.mp h) (isArB_s.mp hr))]
      cases S a <;> rfl
    · rw [if_neg hr, if_pos (e.mpr (fun h => hr (isArB_s.mpr h)))]
  have h8 : ∀ (w : ST) (y : Int32) (r : Nat), m_slice_f (r + 1) 8 w (nI ρ) (nI i) y = m_slice_f r 3 w (nI ρ) (nI (i + 1)) 0 := by
    intro w y r
    show m_slice_g123 (m_slice_f r) w (nI ρ) (nI i) y = _
    simp only [m_slice_g123, nI_1]
  have h70 : ∀ r, m_slice_f (r + 1) 4 z (nI ρ) (nI i) 0 = m_slice_f r 5 z (nI ρ) (nI i) 0 := fun r => rfl
  by_cases hb : isAr (z.2 0 i) ∧ S a = true
  · obtain ⟨⟨b, hbl, hbe, hbc⟩, ⟨cc, hcl2, hce, hcc⟩⟩ := And.intro (R8_lt (okI_ar ho hb.1).1) (R8_lt (okI_ar ho hb.1).2)
    obtain ⟨ib, -, -, -, hbi, -⟩ := R8_cl (okI_ar ho hb.1).1
    obtain ⟨ic, -, -, -, hci, -⟩ := R8_cl (okI_ar ho hb.1).2
    refine ⟨5, stA (stA z 4 (upd (z.2 4) b 1)) 4 (upd ((stA z 4 (upd (z.2 4) b 1)).2 4) cc 1), by omega, fun r => ?_, onlyA.st.tr onlyA.st, ?_⟩
    · show m_slice_g31 (m_slice_f (r + 4)) z (nI ρ) (nI i) 0 = _
      rw [h31, if_pos (isArB_s.mpr hb.1), if_pos hb.2]
      show m_slice_g70 (m_slice_f (r + 3)) z (nI ρ) (nI i) 1 = _
      simp (decide := true) only [m_slice_g70, if_false]
      show m_slice_g95 (m_slice_f (r + 2)) z (nI ρ) (nI i) 1 = _
      simp only [m_slice_g95, gin_n hi24 (by decide : 24 < 2 ^ 31), hcl, gin_r hbi, gib_1, bnd_s, hbc]
      show m_slice_g107 (m_slice_f (r + 1)) (stA z 4 (upd (z.2 4) b 1)) (nI ρ) (nI i) 1 = _
      simp (decide := true) only [m_slice_g107, gin_n hi24 (by decide : 24 < 2 ^ 31), hcl, gib_1, bnd_s, if_false]
      rw [show (stA z 4 (upd (z.2 4) b 1)).2 3 i = z.2 3 i from rfl, gin_r hci, hcc]
      exact h8 _ 1 r
    · rw [s2_e, s2_e, stR, if_pos (by rw [hac]; exact hb), hbc, hcc]
      exact DK_set (DK_set hd)
  · have hn : ¬ (isAr (z.2 0 i) ∧ S (z.2 1 i).toNatClampNeg = true) := by rw [hac]; exact hb
    have go : ∀ r, m_slice_f (r + 1) 3 z (nI ρ) (nI i) 0 = m_slice_f r 4 z (nI ρ) (nI i) 0 := by
      intro r
      show m_slice_g31 (m_slice_f r) z (nI ρ) (nI i) 0 = _
      rw [h31]
      by_cases hr : isArB (z.2 0 i) = true
      · rw [if_pos hr, if_neg (fun h => hb ⟨isArB_s.mp hr, h⟩)]
      · rw [if_neg hr]
    by_cases hl : isLs (z.2 0 i)
    · obtain ⟨b, hbl, hbe, hbc⟩ := R8_lt (okI_ls ho hl)
      obtain ⟨ib, -, -, -, hbi, -⟩ := R8_cl (okI_ls ho hl)
      refine ⟨6, stA z 4 (upd (z.2 4) b 1), by omega, fun r => ?_, onlyA.st, ?_⟩
      · rw [go (r + 5), h70]
        show m_slice_g70 (m_slice_f (r + 3)) z (nI ρ) (nI i) 0 = _
        have e70 : m_slice_g70 (m_slice_f (r + 3)) z (nI ρ) (nI i) 0 = m_slice_f (r + 3) 6 z (nI ρ) (nI i) 0 := by
          simp only [m_slice_g70, gin_n hi24 (by decide : 24 < 2 ^ 31), hcl, if_true]
          rcases hl with hl | hl
          · rw [if_pos hl]
          · rw [if_neg (by rw [hl]; decide), if_pos hl]
        rw [e70]
        show m_slice_g95 (m_slice_f (r + 2)) z (nI ρ) (nI i) 0 = _
        simp only [m_slice_g95, gin_n hi24 (by decide : 24 < 2 ^ 31), hcl, gin_r hbi, gib_1, bnd_s, hbc]
        show m_slice_g107 (m_slice_f (r + 1)) (stA z 4 (upd (z.2 4) b 1)) (nI ρ) (nI i) 0 = _
        simp only [m_slice_g107, if_true]
        exact h8 _ 0 r
      · rw [s2_e, stR, if_neg hn, if_pos hl, hbc]
        exact DK_set hd
    · refine ⟨5, z, by omega, fun r => ?_, onlyA.rf, ?_⟩
      · rw [go (r + 4), h70]
        show m_slice_g70 (m_slice_f (r + 2)) z (nI ρ) (nI i) 0 = _
        simp only [m_slice_g70, gin_n hi24 (by decide : 24 < 2 ^ 31), hcl, if_true]
        rw [if_neg (fun e => hl (Or.inl e)), if_neg (fun e => hl (Or.inr e))]
        show m_slice_g107 (m_slice_f (r + 1)) z (nI ρ) (nI i) 0 = _
        simp only [m_slice_g107, if_true]
        exact h8 _ 0 r
      · rw [stR, if_neg hn, if_neg hl]
        exact hd
theorem mr_2 {N : Nat} (hN : N ≤ 24) {S : Nat → Bool} {ρ : Nat} : ∀ (m i : Nat) (z : ST), i + m = N → z.1 0 = nI N → (∀ j, j < N → okI (z.2 0 j) (z.2 1 j) (z.2 2 j) (z.2 3 j)) → DK (z.2 4) (foldP (stR (z.2 0) (z.2 1) (z.2 2) (z.2 3)) S i) →
    ∃ c z', c ≤ 6 * m + 1 ∧ (∀ r, m_slice_f (r + c) 3 z (nI ρ) (nI i) 0 = m_slice_f r 2 z' (nI (ρ + 1)) 0 0) ∧ onlyA 4 z z' ∧ DK (z'.2 4) (foldP (stR (z.2 0) (z.2 1) (z.2 2) (z.2 3)) S N) := by
  intro m
  induction m with
  | zero =>
    intro i z hi h1 ho hk
    have e : i = N := by omega
    subst e
    refine ⟨1, z, by omega, fun r => ?_, onlyA.rf, hk⟩
    show m_slice_g31 (m_slice_f r) z (nI ρ) (nI i) 0 = _
    simp only [m_slice_g31, h1]
    rw [if_pos (nI_le (Nat.le_refl _) (by omega)), nI_1]
  | succ m ih =>
    intro i z hi h1 ho hk
    obtain ⟨c1, z1, hc1, g1, g2, g3⟩ := mr_1 hN (ρ := ρ) (i := i) (z := z) (by omega) h1 (ho i (by omega)) hk
    have k0 := g2.2 0 (by decide); have k1 := g2.2 1 (by decide); have k2 := g2.2 2 (by decide); have k3 := g2.2 3 (by decide)
    obtain ⟨c, z', hc, h2, h3, h4⟩ := ih (i + 1) z1 (by omega) (by rw [g2.1]; exact h1) (by rw [k0, k1, k2, k3]; exact ho) (by rw [k0, k1, k2, k3]; exact g3)
    rw [k0, k1, k2, k3] at h4
    refine ⟨c + c1, z', by omega, fun r => ?_, g2.tr h3, h4⟩
    rw [← h2 r, ← g1 (r + c), Nat.add_assoc]
theorem mr_3 {N : Nat} (hN : N ≤ 24) : ∀ (m ρ : Nat) (z : ST), ρ + m = 9 → z.1 0 = nI N → (∀ j, j < N → okI (z.2 0 j) (z.2 1 j) (z.2 2 j) (z.2 3 j)) → DK (z.2 4) (iter (fun T => foldP (stR (z.2 0) (z.2 1) (z.2 2) (z.2 3)) T N) (fun _ => false) ρ) →
    ∃ c z', c ≤ 146 * m + 1 ∧ (∀ r, m_slice_f (r + c) 2 z (nI ρ) 0 0 = some (0, z')) ∧ onlyA 4 z z' ∧ DK (z'.2 4) (iter (fun T => foldP (stR (z.2 0) (z.2 1) (z.2 2) (z.2 3)) T N) (fun _ => false) 9) := by
  intro m
  induction m with
  | zero =>
    intro ρ z hi h1 ho hk
    have e : ρ = 9 := by omega
    subst e
    refine ⟨1, z, by omega, fun r => ?_, onlyA.rf, hk⟩
    show m_slice_g23 (m_slice_f r) z (nI 9) 0 0 = _
    simp only [m_slice_g23]
    rw [if_pos (by decide)]
  | succ m ih =>
    intro ρ z hi h1 ho hk
    obtain ⟨c1, z1, hc1, g1, g2, g3⟩ := mr_2 hN (S := iter (fun T => foldP (stR (z.2 0) (z.2 1) (z.2 2) (z.2 3)) T N) (fun _ => false) ρ) (ρ := ρ) N 0 z (by omega) h1 ho hk
    have k0 := g2.2 0 (by decide); have k1 := g2.2 1 (by decide); have k2 := g2.2 2 (by decide); have k3 := g2.2 3 (by decide)
    obtain ⟨c, z', hc, h2, h3, h4⟩ := ih (ρ + 1) z1 (by omega) (by rw [g2.1]; exact h1) (by rw [k0, k1, k2, k3]; exact ho) (by rw [k0, k1, k2, k3]; exact g3)
    rw [k0, k1, k2, k3] at h4
    refine ⟨c + c1 + 1, z', by omega, fun r => ?_, g2.tr h3, h4⟩
    rw [← h2 r, ← g1 (r + c)]
    show m_slice_g23 (m_slice_f (r + (c + c1))) z (nI ρ) 0 0 = _
    simp only [m_slice_g23]
    rw [if_neg (by rw [show (9 : Int32) = nI 9 by decide]; exact nI_ge (by omega) (by omega)), nI_0, Nat.add_assoc]
theorem m_slice_s {t : ST} {N : Nat} (hN : N ≤ 24) (h1 : t.1 0 = nI N) (ho : ∀ j, j < N → okI (t.2 0 j) (t.2 1 j) (t.2 2 j) (t.2 3 j)) :
    ∃ t', m_slice t = some (0, t') ∧ onlyA 4 t t' ∧ DK (t'.2 4) (iter (fun T => foldP (stR (t.2 0) (t.2 1) (t.2 2) (t.2 3)) T N) (fun _ => false) 9) := by
  obtain ⟨t1, a1, a2, a3⟩ := mr_0 8 0 t (by omega) (fun q hq => by omega)
  have k0 := a2.2 0 (by decide); have k1 := a2.2 1 (by decide); have k2 := a2.2 2 (by decide); have k3 := a2.2 3 (by decide)
  obtain ⟨c, t2, hc, b1, b2, b3⟩ := mr_3 hN 9 0 t1 (by omega) (by rw [a2.1]; exact h1) (by rw [k0, k1, k2, k3]; exact ho) a3
  rw [k0, k1, k2, k3] at b3
  refine ⟨t2, ?_, a2.tr b2, b3⟩
  rw [← b1 (4000 - 10 - c)]
  show m_slice_g0 (m_slice_f 3999) t 0 0 0 = _
  simp only [m_slice_g0]
  have e := a1 (4000 - 10 - c + c)
  rw [show 4000 - 10 - c + c + (8 + 1) = 3999 by omega, nI_0] at e
  rw [e, nI_0]
