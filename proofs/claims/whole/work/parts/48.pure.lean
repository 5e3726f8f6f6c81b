theorem x_isAddrK {z : ST} {S : Nat → Bool} {r : Int32} {i : Nat} (hm : MK (z.1 2) S) (hi : i < 8) (hr : r = nI i) : x_Program_isAddressRegister_1 z r = some (if S i = true then 1 else 0, z) := by
  have h8 : R8 r := ⟨i, hi, hr⟩
  have h := x_isAddr_s (d := fun q => if S q = true then 1 else 0) (MK_MB hm (fun q _ => rfl)) (Or.inr h8)
  rw [h, fAd_R8 h8, hr, cl_n (show i < 2 ^ 31 by omega)]
  cases S i <;> rfl
theorem far_C {N : Nat} (hN : N ≤ 24) {S : Nat → Bool} {ρ : Nat} : ∀ (m i : Nat) (z : ST), i + m = N → z.1 1 = nI N → (∀ j, j < N → okI (z.2 0 j) (z.2 1 j) (z.2 2 j) (z.2 3 j)) → MK (z.1 2) (foldP (stC (z.2 0) (z.2 1) (z.2 2) (z.2 3)) S i) →
    ∃ c z', c ≤ 2 * m + 1 ∧ (∀ r, x_Program_findAddressRegisters_1_f (r + c) 5 z (nI ρ) (nI i) = x_Program_findAddressRegisters_1_f r 4 z' (nI (ρ + 1)) 0) ∧ onlyI 2 z z' ∧ MK (z'.1 2) (foldP (stC (z.2 0) (z.2 1) (z.2 2) (z.2 3)) S N) := by
  intro m
  induction m with
  | zero =>
    intro i z hi h1 ho hk
    have e : i = N := by omega
    subst e
    refine ⟨1, z, by omega, fun r => ?_, onlyI.rf, hk⟩
    show x_Program_findAddressRegisters_1_g68 _ z (nI ρ) (nI i) = _
    simp only [x_Program_findAddressRegisters_1_g68, h1]
    rw [if_pos (nI_le (Nat.le_refl _) (by omega)), nI_1]
  | succ m ih =>
    intro i z hi h1 ho hk
    have hi24 : i < 24 := by omega
    have hcl : (nI i).toNatClampNeg = i := cl_n (by omega)
    obtain ⟨a, ha, hae, hac⟩ := R8_lt (ho i (by omega)).1
    have h68 : ∀ k, x_Program_findAddressRegisters_1_g68 k z (nI ρ) (nI i) = if fAr (z.2 0 i) = 0 then k 6 z (nI ρ) (nI i) else if (foldP (stC (z.2 0) (z.2 1) (z.2 2) (z.2 3)) S i) a = true then k 6 (stI z 2 ((z.1 2) ||| (((1 : Int32) <<< ((z.2 2 i) &&& 31)) ||| ((1 : Int32) <<< ((z.2 3 i) &&& 31))))) (nI ρ) (nI i) else k 6 z (nI ρ) (nI i) := by
      intro k
      simp only [x_Program_findAddressRegisters_1_g68, h1, gin_n hi24 (by decide : 24 < 2 ^ 31), hcl, x_isArith_s hi24, obn_s, x_isAddrK hk ha hae, bnd_s]
      rw [if_neg (nI_ge (by omega) (by omega))]
      by_cases e1 : fAr (z.2 0 i) = 0
      · rw [if_pos e1, if_pos e1]
      · rw [if_neg e1, if_neg e1]
        by_cases e2 : (foldP (stC (z.2 0) (z.2 1) (z.2 2) (z.2 3)) S i) a = true
        · simp (decide := true) [e2]
        · simp [e2]
    have h6 : ∀ (w : ST) (r c : Nat), x_Program_findAddressRegisters_1_f (r + c + 1) 6 w (nI ρ) (nI i) = x_Program_findAddressRegisters_1_f (r + c) 5 w (nI ρ) (nI (i + 1)) := by
      intro w r c
      show x_Program_findAddressRegisters_1_g123 _ w (nI ρ) (nI i) = _
      simp only [x_Program_findAddressRegisters_1_g123, nI_1]
    by_cases hl : isAr (z.2 0 i) ∧ (foldP (stC (z.2 0) (z.2 1) (z.2 2) (z.2 3)) S i) (z.2 1 i).toNatClampNeg = true
    · obtain ⟨⟨b, hb, hbe, hbc⟩, ⟨cc, hcc, hce, hcc2⟩⟩ := And.intro (R8_lt (okI_ar (ho i (by omega)) hl.1).1) (R8_lt (okI_ar (ho i (by omega)) hl.1).2)
      have hk' : MK ((stI z 2 ((z.1 2) ||| (((1 : Int32) <<< ((z.2 2 i) &&& 31)) ||| ((1 : Int32) <<< ((z.2 3 i) &&& 31))))).1 2) (foldP (stC (z.2 0) (z.2 1) (z.2 2) (z.2 3)) S (i + 1)) := by
        rw [s1_e, hbe, hce]
        simp only [foldP]
        rw [stC, if_pos hl, hbc, hcc2]
        exact MK_or2 hk hb hcc
      obtain ⟨c, z', hc, h2, h3, h4⟩ := ih (i + 1) (stI z 2 ((z.1 2) ||| (((1 : Int32) <<< ((z.2 2 i) &&& 31)) ||| ((1 : Int32) <<< ((z.2 3 i) &&& 31))))) (by omega) (by rw [s1_n (by decide)]; exact h1) ho hk'
      refine ⟨c + 2, z', by omega, fun r => ?_, onlyI.st.tr h3, h4⟩
      rw [← h2 r]
      show x_Program_findAddressRegisters_1_g68 (x_Program_findAddressRegisters_1_f (r + c + 1)) z (nI ρ) (nI i) = _
      rw [h68, if_neg (fun e => (isAr_d _).mp e hl.1), if_pos (by rw [← hac]; exact hl.2)]
      exact h6 _ r c
    · have hk' : MK (z.1 2) (foldP (stC (z.2 0) (z.2 1) (z.2 2) (z.2 3)) S (i + 1)) := by
        simp only [foldP]
        rw [stC, if_neg hl]
        exact hk
      obtain ⟨c, z', hc, h2, h3, h4⟩ := ih (i + 1) z (by omega) h1 ho hk'
      refine ⟨c + 2, z', by omega, fun r => ?_, h3, h4⟩
      rw [← h2 r]
      show x_Program_findAddressRegisters_1_g68 (x_Program_findAddressRegisters_1_f (r + c + 1)) z (nI ρ) (nI i) = _
      rw [h68]
      by_cases e1 : fAr (z.2 0 i) = 0
      · rw [if_pos e1]; exact h6 _ r c
      · have e2 : ¬ (foldP (stC (z.2 0) (z.2 1) (z.2 2) (z.2 3)) S i) a = true := by
          intro e2
          apply hl
          refine ⟨Classical.byContradiction (fun h => e1 ((isAr_d _).mpr h)), ?_⟩
          rw [hac]; exact e2
        rw [if_neg e1, if_neg e2]; exact h6 _ r c
theorem far_O {N : Nat} (hN : N ≤ 24) {S : Nat → Bool} : ∀ (m ρ : Nat) (z : ST), ρ + m = 8 → z.1 1 = nI N → (∀ j, j < N → okI (z.2 0 j) (z.2 1 j) (z.2 2 j) (z.2 3 j)) → MK (z.1 2) (iter (fun T => foldP (stC (z.2 0) (z.2 1) (z.2 2) (z.2 3)) T N) S ρ) →
    ∃ c z', c ≤ 50 * m + 1 ∧ (∀ r, x_Program_findAddressRegisters_1_f (r + c) 4 z (nI ρ) 0 = some (0, z')) ∧ onlyI 2 z z' ∧ MK (z'.1 2) (iter (fun T => foldP (stC (z.2 0) (z.2 1) (z.2 2) (z.2 3)) T N) S 8) := by
  intro m
  induction m with
  | zero =>
    intro ρ z hi h1 ho hk
    have e : ρ = 8 := by omega
    subst e
    refine ⟨1, z, by omega, fun r => ?_, onlyI.rf, hk⟩
    show x_Program_findAddressRegisters_1_g60 (x_Program_findAddressRegisters_1_f r) z (nI 8) 0 = _
    simp only [x_Program_findAddressRegisters_1_g60]
    rw [if_pos (by decide)]
  | succ m ih =>
    intro ρ z hi h1 ho hk
    obtain ⟨c1, z1, hc1, g1, g2, g3⟩ := far_C hN (S := iter (fun T => foldP (stC (z.2 0) (z.2 1) (z.2 2) (z.2 3)) T N) S ρ) (ρ := ρ) N 0 z (by omega) h1 ho hk
    obtain ⟨c, z', hc, h2, h3, h4⟩ := ih (ρ + 1) z1 (by omega) (by rw [g2.2 1 (by decide)]; exact h1) (by rw [g2.1]; exact ho) (by rw [g2.1]; exact g3)
    rw [g2.1] at h4
    refine ⟨c + c1 + 1, z', by omega, fun r => ?_, g2.tr h3, h4⟩
    rw [← h2 r, ← g1 (r + c)]
    show x_Program_findAddressRegisters_1_g60 (x_Program_findAddressRegisters_1_f (r + (c + c1))) z (nI ρ) 0 = _
    simp only [x_Program_findAddressRegisters_1_g60]
    rw [if_neg (by rw [show (8 : Int32) = nI 8 by decide]; exact nI_ge (by omega) (by omega)), nI_0, Nat.add_assoc]
/-- the class's way to the address registers -/
theorem x_far_s {z : ST} {N : Nat} (hN : N ≤ 24) (h1 : z.1 1 = nI N) (ho : ∀ j, j < N → okI (z.2 0 j) (z.2 1 j) (z.2 2 j) (z.2 3 j)) :
    ∃ z', x_Program_findAddressRegisters_1 z = some (0, z') ∧ onlyI 2 z z' ∧ MK (z'.1 2) (iter (fun T => foldP (stC (z.2 0) (z.2 1) (z.2 2) (z.2 3)) T N) (foldP (stL (z.2 0) (z.2 2)) (fun _ => false) N) 8) := by
  have h10 : (stI z 2 0).1 1 = nI N := by rw [s1_n (by decide)]; exact h1
  obtain ⟨c1, z1, hc1, g1, g2, g3⟩ := far_L hN N 0 (stI z 2 0) (by omega) h10 ho (by rw [s1_e]; exact MK_0)
  obtain ⟨c2, z2, hc2, k1, k2, k3⟩ := far_O hN (S := foldP (stL (z.2 0) (z.2 2)) (fun _ => false) N) 8 0 z1 (by omega) (by rw [g2.2 1 (by decide)]; exact h10) (by rw [g2.1]; exact ho) (by rw [g2.1]; exact g3)
  rw [g2.1] at k3
  refine ⟨z2, ?_, (onlyI.st.tr g2).tr k2, k3⟩
  rw [← k1 (4000 - 1 - c1 - c2)]
  show x_Program_findAddressRegisters_1_f 4000 0 z 0 0 = _
  show x_Program_findAddressRegisters_1_g0 (x_Program_findAddressRegisters_1_f 3999) z 0 0 = _
  simp only [x_Program_findAddressRegisters_1_g0, bnd_s]
  have e := g1 (4000 - 1 - c1 - c2 + c2)
  rw [show 4000 - 1 - c1 - c2 + c2 + c1 = 3999 by omega, nI_0] at e
  rw [e, nI_0]
