theorem fAd_m1 {d : Nat → Int32} : fAd d (-1) = 0 := rfl
theorem fPc_Hm {k a b c : Int32} {d : Nat → Int32} (hb : fBel k a b d = 1) : fPc k a b c d = fHm d (fR1 k a b) (fR2 k b c) := by
  have n1 : ¬ fAd d (fR1 k a b) = 0 → ¬ fR1 k a b = -1 := fun h e => h (by rw [e]; rfl)
  have n2 : ¬ fAd d (fR2 k b c) = 0 → ¬ fR2 k b c = -1 := fun h e => h (by rw [e]; rfl)
  simp only [fPc, fP1, fP2, fHm, fTwo, hb, if_true]
  by_cases e1 : fAd d (fR1 k a b) = 0 <;> by_cases e2 : fR2 k b c = fR1 k a b <;> by_cases e3 : fAd d (fR2 k b c) = 0 <;> simp (decide := true) [e1, e2, e3, n1, n2]
  all_goals first | (rw [e2] at e3; exact absurd e1 e3) | (rw [e2] at e3; exact absurd e3 e1)
theorem fAr_br (k : Int32) : fBr k = 0 ∨ fBr k = 1 := by
  simp only [fBr]
  (repeat' split) <;> simp
theorem x_findNothings_s {z : ST} {d : Nat → Int32} {j : Nat} (hj : j < 24) (hm : MB (z.1 2) d) (ho : okI (z.2 0 j) (z.2 1 j) (z.2 2 j) (z.2 3 j)) (hs : z.2 4 j = fBel (z.2 0 j) (z.2 1 j) (z.2 2 j) d) (hp : z.2 7 j = fPc (z.2 0 j) (z.2 1 j) (z.2 2 j) (z.2 3 j) d) :
    x_Program_findNothings_1 z (nI j) = some (0, stA (stA z 8 (upd (z.2 8) j (fN0 (z.2 0 j) (z.2 1 j) (z.2 2 j) (z.2 3 j) d))) 9 (upd (z.2 9) j (fN1 (z.2 0 j) (z.2 1 j) (z.2 2 j) d))) := by
  have hb8 : ∀ g8 : Nat → Int32, x_Program_isBranch_1 (stA z 8 g8) (nI j) = some (fBr (z.2 0 j), stA z 8 g8) := fun g8 => x_isBranch_s (z := stA z 8 g8) hj
  simp only [x_Program_findNothings_1, x_Program_findNothings_1_14, x_Program_findNothings_1_42, x_Program_findNothings_1_43, x_Program_findNothings_1_84, x_Program_findNothings_1_85, x_Program_findNothings_1_111, x_Program_findNothings_1_112, gin_n hj (by decide : 24 < 2 ^ 31), cl_n (show j < 2 ^ 31 by omega), obn_s, bnd_s, gib_0, gib_1, hs, hp, x_isAddr_s hm (Or.inr ho.1), fAd_R8 ho.1, x_isBranch_s hj, hb8]
  simp only [fN0, fN1]
  rcases fBel_01 (k := z.2 0 j) (a := z.2 1 j) (b := z.2 2 j) (d := d) with hb | hb
  · rcases fAr_br (z.2 0 j) with hr | hr
    all_goals simp (decide := true) only [hb, hr, if_true, if_false, stA, upd]
    all_goals (repeat' split) <;> first | rfl | contradiction | (simp_all; done)
  · rw [fPc_Hm hb]
    rcases fAr_br (z.2 0 j) with hr | hr
    all_goals simp (decide := true) only [hb, hr, if_true, if_false, stA, upd]
    all_goals (repeat' split) <;> first | rfl | contradiction | (simp_all; done)
