-- the class's mask and the reference's row, as sets
theorem nx_or (a b : Nat) : nI a ||| nI b = nI (a ||| b) := by
  apply Int32.toBitVec_inj.1
  show BitVec.ofNat 32 a ||| BitVec.ofNat 32 b = BitVec.ofNat 32 (a ||| b)
  apply BitVec.eq_of_getLsbD_eq
  intro i hi
  simp [hi]
def MK (mask : Int32) (S : Nat → Bool) : Prop := ∃ k : Nat, k < 256 ∧ mask = nI k ∧ ∀ q, k.testBit q = S q
theorem sh_1 : ∀ b, b < 8 → (1 : Int32) <<< (nI b &&& 31) = nI (2 ^ b) := by decide +kernel
theorem MK_or {mask : Int32} {S : Nat → Bool} {b : Nat} (h : MK mask S) (hb : b < 8) : MK (mask ||| ((1 : Int32) <<< (nI b &&& 31))) (setT S b) := by
  obtain ⟨k, hk, rfl, ht⟩ := h
  refine ⟨k ||| 2 ^ b, ?_, ?_, fun q => ?_⟩
  · exact Nat.or_lt_two_pow (n := 8) hk (Nat.pow_lt_pow_right (by omega) hb)
  · rw [sh_1 b hb, nx_or]
  · rw [Nat.testBit_or, ht q, Nat.testBit_two_pow]
    simp only [setT]
    by_cases e : q = b
    · subst e; simp
    · rw [if_neg e]; simp [Ne.symm e]
theorem MK_or2 {mask : Int32} {S : Nat → Bool} {b c : Nat} (h : MK mask S) (hb : b < 8) (hc : c < 8) : MK (mask ||| (((1 : Int32) <<< (nI b &&& 31)) ||| ((1 : Int32) <<< (nI c &&& 31)))) (setT (setT S b) c) := by
  have e : mask ||| (((1 : Int32) <<< (nI b &&& 31)) ||| ((1 : Int32) <<< (nI c &&& 31))) = (mask ||| ((1 : Int32) <<< (nI b &&& 31))) ||| ((1 : Int32) <<< (nI c &&& 31)) := (Int32.or_assoc ..).symm
  rw [e]
  exact MK_or (MK_or h hb) hc
/-- a boolean row that holds a set -/
def DK (d : Nat → Int32) (S : Nat → Bool) : Prop := ∀ q, q < 8 → d q = if S q = true then 1 else 0
theorem MK_MB {mask : Int32} {S : Nat → Bool} {d : Nat → Int32} (h : MK mask S) (hd : DK d S) : MB mask d := by
  obtain ⟨k, hk, hm, ht⟩ := h
  refine ⟨k, hk, hm, fun q hq => ?_⟩
  rw [ht q, hd q hq]
  cases S q <;> decide
theorem MK_0 : MK 0 (fun _ => false) := ⟨0, by decide, by decide, fun q => by simp⟩
def onlyI (k : Nat) (z z' : ST) : Prop := z'.2 = z.2 ∧ ∀ q, q ≠ k → z'.1 q = z.1 q
theorem onlyI.rf {k : Nat} {z : ST} : onlyI k z z := ⟨rfl, fun _ _ => rfl⟩
theorem onlyI.tr {k : Nat} {z z1 z2 : ST} (h : onlyI k z z1) (h2 : onlyI k z1 z2) : onlyI k z z2 := ⟨h2.1.trans h.1, fun q hq => (h2.2 q hq).trans (h.2 q hq)⟩
theorem onlyI.st {k : Nat} {z : ST} {v : Int32} : onlyI k z (stI z k v) := ⟨rfl, fun q hq => s1_n hq⟩
theorem R8_lt {a : Int32} (h : R8 a) : ∃ i, i < 8 ∧ a = nI i ∧ a.toNatClampNeg = i := by
  obtain ⟨i, h1, h2, h3, -⟩ := R8_cl h
  exact ⟨i, h1, h2, h3⟩
theorem okI_ls {k a b c : Int32} (h : okI k a b c) (hl : isLs k) : R8 b := by
  obtain ⟨-, ho⟩ := h
  rcases ho with hk | hk | ⟨hk, h1, h2⟩ | ⟨hk, h1⟩ | ⟨hk, h1, -⟩
  · rw [hk] at hl; exfalso; revert hl; unfold isLs; decide
  · rw [hk] at hl; exfalso; revert hl; unfold isLs; decide
  · exact h1
  · exact h1
  · exact h1
theorem okI_ar {k a b c : Int32} (h : okI k a b c) (hl : isAr k) : R8 b ∧ R8 c := by
  obtain ⟨-, ho⟩ := h
  rcases ho with hk | hk | ⟨hk, h1, h2⟩ | ⟨hk, h1⟩ | ⟨hk, h1, -⟩
  · rw [hk] at hl; exfalso; revert hl; unfold isAr; decide
  · rw [hk] at hl; exfalso; revert hl; unfold isAr; decide
  · exact ⟨h1, h2⟩
  · rcases hk with hk | hk <;> (rw [hk] at hl; exfalso; revert hl; unfold isAr; decide)
  · rcases hk with hk | hk <;> (rw [hk] at hl; exfalso; revert hl; unfold isAr; decide)
/-- the first loop: loads and stores -/
theorem far_L {N : Nat} (hN : N ≤ 24) : ∀ (m i : Nat) (z : ST), i + m = N → z.1 1 = nI N → (∀ j, j < N → okI (z.2 0 j) (z.2 1 j) (z.2 2 j) (z.2 3 j)) → MK (z.1 2) (foldP (stL (z.2 0) (z.2 2)) (fun _ => false) i) →
    ∃ c z', c ≤ 3 * m + 1 ∧ (∀ r, x_Program_findAddressRegisters_1_f (r + c) 1 z (nI i) 0 = x_Program_findAddressRegisters_1_f r 4 z' 0 0) ∧ onlyI 2 z z' ∧ MK (z'.1 2) (foldP (stL (z.2 0) (z.2 2)) (fun _ => false) N) := by
  intro m
  induction m with
  | zero =>
    intro i z hi h1 ho hk
    have e : i = N := by omega
    subst e
    refine ⟨1, z, by omega, fun r => ?_, onlyI.rf, hk⟩
    show x_Program_findAddressRegisters_1_g7 _ z (nI i) 0 = _
    simp only [x_Program_findAddressRegisters_1_g7, h1]
    rw [if_pos (nI_le (Nat.le_refl _) (by omega))]
  | succ m ih =>
    intro i z hi h1 ho hk
    have hi24 : i < 24 := by omega
    have hcl : (nI i).toNatClampNeg = i := cl_n (by omega)
    have h7 : ∀ k, x_Program_findAddressRegisters_1_g7 k z (nI i) 0 = if z.2 0 i = 4 then k 2 z (nI i) 0 else if z.2 0 i = 5 then k 2 z (nI i) 0 else k 3 z (nI i) 0 := by
      intro k
      simp only [x_Program_findAddressRegisters_1_g7, h1, gin_n hi24 (by decide : 24 < 2 ^ 31), hcl]
      rw [if_neg (nI_ge (by omega) (by omega))]
    by_cases hl : isLs (z.2 0 i)
    · obtain ⟨b, hb, hbe, hbc⟩ := R8_lt (okI_ls (ho i (by omega)) hl)
      have hk' : MK ((stI z 2 (z.1 2 ||| ((1 : Int32) <<< (z.2 2 i &&& 31)))).1 2) (foldP (stL (z.2 0) (z.2 2)) (fun _ => false) (i + 1)) := by
        rw [s1_e, hbe]
        simp only [foldP, stL, if_pos hl, hbc]
        exact MK_or hk hb
      obtain ⟨c, z', hc, h2, h3, h4⟩ := ih (i + 1) (stI z 2 (z.1 2 ||| ((1 : Int32) <<< (z.2 2 i &&& 31)))) (by omega) (by rw [s1_n (by decide)]; exact h1) ho hk'
      refine ⟨c + 3, z', by omega, fun r => ?_, onlyI.st.tr h3, h4⟩
      rw [← h2 r]
      show x_Program_findAddressRegisters_1_g7 (x_Program_findAddressRegisters_1_f (r + c + 2)) z (nI i) 0 = _
      rw [h7]
      have e2 : x_Program_findAddressRegisters_1_f (r + c + 2) 2 z (nI i) 0 = x_Program_findAddressRegisters_1_f (r + c) 1 (stI z 2 (z.1 2 ||| ((1 : Int32) <<< (z.2 2 i &&& 31)))) (nI (i + 1)) 0 := by
        show x_Program_findAddressRegisters_1_g35 _ z (nI i) 0 = _
        simp only [x_Program_findAddressRegisters_1_g35, gin_n hi24 (by decide : 24 < 2 ^ 31), hcl, bnd_s]
        show x_Program_findAddressRegisters_1_g52 _ _ (nI i) 0 = _
        simp only [x_Program_findAddressRegisters_1_g52, nI_1]
      rcases hl with hl | hl
      · rw [if_pos hl]; exact e2
      · rw [if_neg (by rw [hl]; decide), if_pos hl]; exact e2
    · have hk' : MK (z.1 2) (foldP (stL (z.2 0) (z.2 2)) (fun _ => false) (i + 1)) := by
        simp only [foldP, stL, if_neg hl]
        exact hk
      obtain ⟨c, z', hc, h2, h3, h4⟩ := ih (i + 1) z (by omega) h1 ho hk'
      refine ⟨c + 2, z', by omega, fun r => ?_, h3, h4⟩
      rw [← h2 r]
      show x_Program_findAddressRegisters_1_g7 (x_Program_findAddressRegisters_1_f (r + c + 1)) z (nI i) 0 = _
      rw [h7, if_neg (fun e => hl (Or.inl e)), if_neg (fun e => hl (Or.inr e))]
      show x_Program_findAddressRegisters_1_g52 _ z (nI i) 0 = _
      simp only [x_Program_findAddressRegisters_1_g52, nI_1]
