-- which registers are address registers: sets of registers as functions; the rule of one instruction
def setT (S : Nat → Bool) (r : Nat) : Nat → Bool := fun q => if q = r then true else S q
/-- the registers that the program makes address registers hold at least those of the rules -/
def Clo (n : Nat) (K A B C : Nat → Int32) (S : Nat → Bool) : Prop := ∀ j, j < n → ((K j = 4 ∨ K j = 5) → S (B j).toNatClampNeg = true) ∧ ((K j = 1 ∨ K j = 2 ∨ K j = 3) → S (A j).toNatClampNeg = true → S (B j).toNatClampNeg = true ∧ S (C j).toNatClampNeg = true)
def cnt8 (S : Nat → Bool) : Nat → Nat
  | 0 => 0
  | n + 1 => cnt8 S n + (if S n = true then 1 else 0)
theorem cnt8_le (S : Nat → Bool) : ∀ n, cnt8 S n ≤ n := by
  intro n
  induction n with
  | zero => exact Nat.le_refl _
  | succ n ih => simp only [cnt8]; split <;> omega
theorem cnt8_mono {S T : Nat → Bool} (h : ∀ q, S q = true → T q = true) : ∀ n, cnt8 S n ≤ cnt8 T n := by
  intro n
  induction n with
  | zero => exact Nat.le_refl _
  | succ n ih =>
    simp only [cnt8]
    by_cases hs : S n = true
    · rw [if_pos hs, if_pos (h n hs)]; omega
    · rw [if_neg hs]; omega
theorem cnt8_lt {S T : Nat → Bool} (h : ∀ q, S q = true → T q = true) {r : Nat} (h1 : ¬ S r = true) (h2 : T r = true) : ∀ n, r < n → cnt8 S n < cnt8 T n := by
  intro n
  induction n with
  | zero => intro hr; omega
  | succ n ih =>
    intro hr
    simp only [cnt8]
    by_cases hrn : r = n
    · subst hrn
      rw [if_neg h1, if_pos h2]
      have := cnt8_mono h r
      omega
    · have := ih (by omega)
      by_cases hs : S n = true
      · rw [if_pos hs, if_pos (h n hs)]; omega
      · rw [if_neg hs]; omega
/-- passes that only add, and that are closed where they add nothing: N of them, N at least 8, come to a closed set -/
theorem passes {S : Nat → Nat → Bool} {N : Nat} {Q : (Nat → Bool) → Prop} (hN : 8 ≤ N) (hup : ∀ k, k < N → ∀ q, S k q = true → S (k + 1) q = true) (h8 : ∀ k q, S k q = true → q < 8) (hfix : ∀ k, k < N → (∀ q, q < 8 → S (k + 1) q = true → S k q = true) → Q (S k) ∧ ∀ q, S (k + 1) q = S k q) (hnext : ∀ k, k < N → Q (S k) → ∀ q, S (k + 1) q = S k q) (hfull : (∀ q, q < 8 → S N q = true) → Q (S N)) : Q (S N) := by
  have key : ∀ k, k ≤ N → Q (S k) ∨ k ≤ cnt8 (S k) 8 := by
    intro k
    induction k with
    | zero => intro _; exact Or.inr (Nat.zero_le _)
    | succ k ih =>
      intro hk
      have ext : (∀ q, S (k + 1) q = S k q) → S (k + 1) = S k := fun h => funext h
      rcases ih (by omega) with h | h
      · left
        rw [ext (hnext k (by omega) h)]
        exact h
      · by_cases hc : ∀ q, q < 8 → S (k + 1) q = true → S k q = true
        · left
          obtain ⟨g1, g2⟩ := hfix k (by omega) hc
          rw [ext g2]
          exact g1
        · right
          simp only [Classical.not_forall] at hc
          obtain ⟨r, hr, h2, h1⟩ := hc
          have := cnt8_lt (hup k (by omega)) h1 h2 8 hr
          omega
  rcases key N (Nat.le_refl _) with h | h
  · exact h
  · apply hfull
    intro q hq
    apply Classical.byContradiction
    intro hn
    have h1 := cnt8_lt (S := S N) (T := fun _ => true) (fun _ _ => rfl) hn rfl 8 hq
    have h2 := cnt8_le (fun _ => true) 8
    omega
