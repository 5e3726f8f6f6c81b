-- the class's tables of one instruction
def fP1 (k a b : Int32) (d : Nat → Int32) : Int32 := if fBel k a b d = 1 then (if fAd d (fR1 k a b) = 0 then -1 else fR1 k a b) else -1
def fP2 (k a b c : Int32) (d : Nat → Int32) : Int32 := if fBel k a b d = 1 then (if fR2 k b c = fR1 k a b then -1 else if fAd d (fR2 k b c) = 0 then -1 else fR2 k b c) else -1
def fPc (k a b c : Int32) (d : Nat → Int32) : Int32 := (if fP1 k a b d = -1 then 0 else 1) + (if fP2 k a b c d = -1 then 0 else 1)
theorem x_findPassed_s {z : ST} {d : Nat → Int32} {j : Nat} (hj : j < 24) (hm : MB (z.1 2) d) (ho : okI (z.2 0 j) (z.2 1 j) (z.2 2 j) (z.2 3 j)) (hs : z.2 4 j = fBel (z.2 0 j) (z.2 1 j) (z.2 2 j) d) :
    x_Program_findPassed_1 z (nI j) = some (0, stA (stA (stA z 5 (upd (z.2 5) j (fP1 (z.2 0 j) (z.2 1 j) (z.2 2 j) d))) 6 (upd (z.2 6) j (fP2 (z.2 0 j) (z.2 1 j) (z.2 2 j) (z.2 3 j) d))) 7 (upd (z.2 7) j (fPc (z.2 0 j) (z.2 1 j) (z.2 2 j) (z.2 3 j) d))) := by
  obtain ⟨h1, h2⟩ := okI_r ho
  have g := gin_n (j := j) (n := 24) (x := (none : OR)) hj (by decide)
  have hmA : ∀ g5 : Nat → Int32, MB ((stA z 5 g5).1 2) d := fun _ => hm
  simp only [x_Program_findPassed_1, x_Program_findPassed_1_15, x_Program_findPassed_1_50, x_Program_findPassed_1_51, x_Program_findPassed_1_81, x_Program_findPassed_1_82, x_Program_findPassed_1_103, x_Program_findPassed_1_118, gin_n hj (by decide : 24 < 2 ^ 31), cl_n (show j < 2 ^ 31 by omega), x_firstRead_s hj ho, x_secondRead_s hj ho, obn_s, bnd_s, hs, x_isAddr_s hm h1, x_isAddr_s (hmA _) h2]
  simp only [fPc, fP1, fP2]
  have n1 : ¬ fAd d (fR1 (z.2 0 j) (z.2 1 j) (z.2 2 j)) = 0 → ¬ fR1 (z.2 0 j) (z.2 1 j) (z.2 2 j) = -1 := fun h e => h (by rw [e]; rfl)
  have n2 : ¬ fAd d (fR2 (z.2 0 j) (z.2 2 j) (z.2 3 j)) = 0 → ¬ fR2 (z.2 0 j) (z.2 2 j) (z.2 3 j) = -1 := fun h e => h (by rw [e]; rfl)
  rcases fBel_01 (k := z.2 0 j) (a := z.2 1 j) (b := z.2 2 j) (d := d) with hb | hb
  · simp (decide := true) [hb, stA, upd]
  · by_cases e1 : fAd d (fR1 (z.2 0 j) (z.2 1 j) (z.2 2 j)) = 0 <;> by_cases e2 : fR2 (z.2 0 j) (z.2 2 j) (z.2 3 j) = fR1 (z.2 0 j) (z.2 1 j) (z.2 2 j) <;> by_cases e3 : fAd d (fR2 (z.2 0 j) (z.2 2 j) (z.2 3 j)) = 0 <;> simp (decide := true) [hb, e1, e2, e3, n1, n2, stA, upd]
