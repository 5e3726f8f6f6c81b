-- passes over the instructions, as sets
def foldP (st : Nat → (Nat → Bool) → Nat → Bool) (S : Nat → Bool) : Nat → (Nat → Bool)
  | 0 => S
  | j + 1 => st j (foldP st S j)
def isAr (k : Int32) : Prop := k = 1 ∨ k = 2 ∨ k = 3
def isLs (k : Int32) : Prop := k = 4 ∨ k = 5
theorem isAr_d (k : Int32) : fAr k = 0 ↔ ¬ isAr k := by
  simp only [fAr, isAr]
  (repeat' split) <;> simp_all
section SETS
variable (K A B C : Nat → Int32)
noncomputable def stL (j : Nat) (S : Nat → Bool) : Nat → Bool := by
  classical exact if isLs (K j) then setT S (B j).toNatClampNeg else S
noncomputable def stC (j : Nat) (S : Nat → Bool) : Nat → Bool := by
  classical exact if isAr (K j) ∧ S (A j).toNatClampNeg = true then setT (setT S (B j).toNatClampNeg) (C j).toNatClampNeg else S
noncomputable def stR (j : Nat) (S : Nat → Bool) : Nat → Bool := by
  classical exact if isAr (K j) ∧ S (A j).toNatClampNeg = true then setT (setT S (B j).toNatClampNeg) (C j).toNatClampNeg else if isLs (K j) then setT S (B j).toNatClampNeg else S
end SETS
theorem setT_up {S : Nat → Bool} {r q : Nat} (h : S q = true) : setT S r q = true := by
  simp only [setT]
  split
  · rfl
  · exact h
theorem setT_in {S : Nat → Bool} {r q : Nat} (h : setT S r q = true) : q = r ∨ S q = true := by
  simp only [setT] at h
  by_cases hq : q = r
  · exact Or.inl hq
  · rw [if_neg hq] at h
    exact Or.inr h
theorem setT_me {S : Nat → Bool} {r : Nat} : setT S r r = true := by simp [setT]
theorem setT_id {S : Nat → Bool} {r : Nat} (h : S r = true) : setT S r = S := by
  funext q
  simp only [setT]
  split
  · rename_i e; rw [e, h]
  · rfl
theorem fold_up {st : Nat → (Nat → Bool) → Nat → Bool} (hu : ∀ j S q, S q = true → st j S q = true) (S : Nat → Bool) : ∀ n m, m ≤ n → ∀ q, foldP st S m q = true → foldP st S n q = true := by
  intro n
  induction n with
  | zero => intro m hm q h; rw [Nat.le_zero.mp hm] at h; exact h
  | succ n ih =>
    intro m hm q h
    by_cases e : m = n + 1
    · rw [e] at h; exact h
    · exact hu n _ q (ih m (by omega) q h)
theorem fold_fix {st : Nat → (Nat → Bool) → Nat → Bool} (hu : ∀ j S q, S q = true → st j S q = true) {S : Nat → Bool} {n : Nat} (hq : ∀ q, foldP st S n q = true → S q = true) : ∀ j, j < n → st j S = S := by
  have eq : ∀ m, m ≤ n → foldP st S m = S := by
    intro m hm
    funext q
    cases h : S q with
    | true => exact fold_up hu S m 0 (Nat.zero_le _) q h
    | false =>
      cases h2 : foldP st S m q with
      | false => rfl
      | true => rw [hq q (fold_up hu S n m hm q h2)] at h; cases h
  intro j hj
  have h1 := eq (j + 1) hj
  simp only [foldP] at h1
  rw [eq j (by omega)] at h1
  exact h1
theorem fold_same {st : Nat → (Nat → Bool) → Nat → Bool} {S : Nat → Bool} {n : Nat} (h : ∀ j, j < n → st j S = S) : ∀ m, m ≤ n → foldP st S m = S := by
  intro m
  induction m with
  | zero => intro _; rfl
  | succ m ih =>
    intro hm
    simp only [foldP]
    rw [ih (by omega)]
    exact h m (by omega)
theorem fold_sub {st : Nat → (Nat → Bool) → Nat → Bool} {T : Nat → Bool} {n : Nat} (h : ∀ j, j < n → ∀ S, (∀ q, S q = true → T q = true) → ∀ q, st j S q = true → T q = true) {S : Nat → Bool} (hS : ∀ q, S q = true → T q = true) : ∀ m, m ≤ n → ∀ q, foldP st S m q = true → T q = true := by
  intro m
  induction m with
  | zero => intro _; exact hS
  | succ m ih =>
    intro hm
    simp only [foldP]
    exact h m (by omega) _ (ih (by omega))
theorem stL_up {K B : Nat → Int32} : ∀ j S q, S q = true → stL K B j S q = true := by
  intro j S q h
  unfold stL
  split
  · exact setT_up h
  · exact h
theorem stC_up {K A B C : Nat → Int32} : ∀ j S q, S q = true → stC K A B C j S q = true := by
  intro j S q h
  unfold stC
  split
  · exact setT_up (setT_up h)
  · exact h
theorem stR_up {K A B C : Nat → Int32} : ∀ j S q, S q = true → stR K A B C j S q = true := by
  intro j S q h
  unfold stR
  split
  · exact setT_up (setT_up h)
  · split
    · exact setT_up h
    · exact h
/-- passes again and again -/
def iter (P : (Nat → Bool) → Nat → Bool) (S : Nat → Bool) : Nat → (Nat → Bool)
  | 0 => S
  | k + 1 => P (iter P S k)
/-- enough passes come to a set that no instruction makes larger -/
theorem iter_fix {st : Nat → (Nat → Bool) → Nat → Bool} (hu : ∀ j S q, S q = true → st j S q = true) (n N : Nat) (hN : 8 ≤ N) (S : Nat → Bool) (h8 : ∀ k q, iter (fun S => foldP st S n) S k q = true → q < 8) (hfull : ∀ T : Nat → Bool, (∀ q, q < 8 → T q = true) → ∀ j, j < n → st j T = T) : ∀ j, j < n → st j (iter (fun S => foldP st S n) S N) = iter (fun S => foldP st S n) S N := by
  refine passes (S := iter (fun S => foldP st S n) S) (Q := fun T => ∀ j, j < n → st j T = T) hN (fun k _ q h => fold_up hu _ n 0 (Nat.zero_le _) q h) h8 (fun k _ h => ?_) (fun k _ h q => ?_) (fun h => hfull _ h)
  · have h2 : ∀ q, foldP st (iter (fun S => foldP st S n) S k) n q = true → iter (fun S => foldP st S n) S k q = true := fun q hq => h q (h8 (k + 1) q hq) hq
    have h3 := fold_fix hu h2
    exact ⟨h3, fun q => congrFun (fold_same h3 n (Nat.le_refl _)) q⟩
  · exact congrFun (fold_same h n (Nat.le_refl _)) q
/-- the two ways come to one set -/
theorem two_ways {K A B C : Nat → Int32} {n : Nat} (hok : ∀ j, j < n → okI (K j) (A j) (B j) (C j)) (q : Nat) :
    iter (fun S => foldP (stC K A B C) S n) (foldP (stL K B) (fun _ => false) n) 8 q = iter (fun S => foldP (stR K A B C) S n) (fun _ => false) 9 q := by
  have hb : ∀ j, j < n → (isAr (K j) → (B j).toNatClampNeg < 8 ∧ (C j).toNatClampNeg < 8) ∧ (isLs (K j) → (B j).toNatClampNeg < 8) := by
    intro j hj
    obtain ⟨-, ho⟩ := hok j hj
    have r8 : ∀ {a : Int32}, R8 a → a.toNatClampNeg < 8 := fun h => by obtain ⟨i, hi, -, hc, -⟩ := R8_cl h; omega
    refine ⟨fun h => ?_, fun h => ?_⟩
    · rcases ho with hk | hk | ⟨hk, h1, h2⟩ | ⟨hk, h1⟩ | ⟨hk, h1, -⟩
      · rw [hk] at h; exfalso; revert h; unfold isAr; decide
      · rw [hk] at h; exfalso; revert h; unfold isAr; decide
      · exact ⟨r8 h1, r8 h2⟩
      · rcases hk with hk | hk <;> (rw [hk] at h; exfalso; revert h; unfold isAr; decide)
      · rcases hk with hk | hk <;> (rw [hk] at h; exfalso; revert h; unfold isAr; decide)
    · rcases ho with hk | hk | ⟨hk, h1, h2⟩ | ⟨hk, h1⟩ | ⟨hk, h1, -⟩
      · rw [hk] at h; exfalso; revert h; unfold isLs; decide
      · rw [hk] at h; exfalso; revert h; unfold isLs; decide
      · exact r8 h1
      · exact r8 h1
      · exact r8 h1
  have in8 : ∀ {S : Nat → Bool} {r : Nat}, (∀ q, S q = true → q < 8) → r < 8 → ∀ q, setT S r q = true → q < 8 := by
    intro S r h hr q hq
    rcases setT_in hq with e | e
    · omega
    · exact h q e
  have l8 : ∀ j, j < n → ∀ S : Nat → Bool, (∀ q, S q = true → decide (q < 8) = true) → ∀ q, stL K B j S q = true → decide (q < 8) = true := by
    intro j hj S h q hq
    unfold stL at hq
    split at hq
    · rename_i e; exact decide_eq_true (in8 (fun q hq => of_decide_eq_true (h q hq)) ((hb j hj).2 e) q hq)
    · exact h q hq
  have c8 : ∀ j, j < n → ∀ S : Nat → Bool, (∀ q, S q = true → decide (q < 8) = true) → ∀ q, stC K A B C j S q = true → decide (q < 8) = true := by
    intro j hj S h q hq
    unfold stC at hq
    split at hq
    · rename_i e; exact decide_eq_true (in8 (in8 (fun q hq => of_decide_eq_true (h q hq)) ((hb j hj).1 e.1).1) ((hb j hj).1 e.1).2 q hq)
    · exact h q hq
  have r8 : ∀ j, j < n → ∀ S : Nat → Bool, (∀ q, S q = true → decide (q < 8) = true) → ∀ q, stR K A B C j S q = true → decide (q < 8) = true := by
    intro j hj S h q hq
    unfold stR at hq
    split at hq
    · rename_i e; exact decide_eq_true (in8 (in8 (fun q hq => of_decide_eq_true (h q hq)) ((hb j hj).1 e.1).1) ((hb j hj).1 e.1).2 q hq)
    · split at hq
      · rename_i e; exact decide_eq_true (in8 (fun q hq => of_decide_eq_true (h q hq)) ((hb j hj).2 e) q hq)
      · exact h q hq
  have L8 := fold_sub (T := fun q => decide (q < 8)) l8 (S := fun _ => false) (fun q h => by cases h) n (Nat.le_refl _)
  have C8 : ∀ k q, iter (fun S => foldP (stC K A B C) S n) (foldP (stL K B) (fun _ => false) n) k q = true → decide (q < 8) = true := by
    intro k
    induction k with
    | zero => exact L8
    | succ k ih => exact fold_sub (T := fun q => decide (q < 8)) c8 ih n (Nat.le_refl _)
  have R8' : ∀ k q, iter (fun S => foldP (stR K A B C) S n) (fun _ => false) k q = true → decide (q < 8) = true := by
    intro k
    induction k with
    | zero => intro q h; cases h
    | succ k ih => exact fold_sub (T := fun q => decide (q < 8)) r8 ih n (Nat.le_refl _)
  have fC := iter_fix (stC_up (K := K) (A := A) (B := B) (C := C)) n 8 (by omega) (foldP (stL K B) (fun _ => false) n) (fun k q h => of_decide_eq_true (C8 k q h)) (fun T hT j hj => by
    unfold stC
    split
    · rename_i e
      rw [setT_id (r := (B j).toNatClampNeg) (hT _ ((hb j hj).1 e.1).1), setT_id (hT _ ((hb j hj).1 e.1).2)]
    · rfl)
  have fR := iter_fix (stR_up (K := K) (A := A) (B := B) (C := C)) n 9 (by omega) (fun _ => false) (fun k q h => of_decide_eq_true (R8' k q h)) (fun T hT j hj => by
    unfold stR
    split
    · rename_i e
      rw [setT_id (r := (B j).toNatClampNeg) (hT _ ((hb j hj).1 e.1).1), setT_id (hT _ ((hb j hj).1 e.1).2)]
    · split
      · rename_i e; exact setT_id (hT _ ((hb j hj).2 e))
      · rfl)
  generalize hCe : iter (fun S => foldP (stC K A B C) S n) (foldP (stL K B) (fun _ => false) n) 8 = Cs at fC
  generalize hRe : iter (fun S => foldP (stR K A B C) S n) (fun _ => false) 9 = Rs at fR
  -- what the sets hold
  have inR1 : ∀ j, j < n → isLs (K j) → Rs (B j).toNatClampNeg = true := by
    intro j hj h
    have e := fR j hj
    unfold stR at e
    split at e
    · rw [← e]; exact setT_up setT_me
    · rw [← e]; exact setT_me
  have inR2 : ∀ j, j < n → isAr (K j) → Rs (A j).toNatClampNeg = true → Rs (B j).toNatClampNeg = true ∧ Rs (C j).toNatClampNeg = true := by
    intro j hj h1 h2
    have e := fR j hj
    unfold stR at e
    rw [if_pos ⟨h1, h2⟩] at e
    exact ⟨by rw [← e]; exact setT_up setT_me, by rw [← e]; exact setT_me⟩
  have inC2 : ∀ j, j < n → isAr (K j) → Cs (A j).toNatClampNeg = true → Cs (B j).toNatClampNeg = true ∧ Cs (C j).toNatClampNeg = true := by
    intro j hj h1 h2
    have e := fC j hj
    unfold stC at e
    rw [if_pos ⟨h1, h2⟩] at e
    exact ⟨by rw [← e]; exact setT_up setT_me, by rw [← e]; exact setT_me⟩
  have upC : ∀ k q, foldP (stL K B) (fun _ => false) n q = true → iter (fun S => foldP (stC K A B C) S n) (foldP (stL K B) (fun _ => false) n) k q = true := by
    intro k
    induction k with
    | zero => intro q h; exact h
    | succ k ih => intro q h; exact fold_up stC_up _ n 0 (Nat.zero_le _) q (ih q h)
  have inC1 : ∀ j, j < n → isLs (K j) → Cs (B j).toNatClampNeg = true := by
    intro j hj h
    rw [← hCe]
    apply upC 8
    apply fold_up stL_up _ n (j + 1) hj
    simp only [foldP, stL, if_pos h]
    exact setT_me
  have CR : ∀ q, Cs q = true → Rs q = true := by
    have a1 : ∀ k q, iter (fun S => foldP (stC K A B C) S n) (foldP (stL K B) (fun _ => false) n) k q = true → Rs q = true := by
      intro k
      induction k with
      | zero =>
        refine fold_sub (fun j hj S hS q hq => ?_) (fun q h => by cases h) n (Nat.le_refl _)
        unfold stL at hq
        split at hq
        · rename_i e
          rcases setT_in hq with e2 | e2
          · rw [e2]; exact inR1 j hj e
          · exact hS q e2
        · exact hS q hq
      | succ k ih =>
        refine fold_sub (fun j hj S hS q hq => ?_) ih n (Nat.le_refl _)
        unfold stC at hq
        split at hq
        · rename_i e
          have e3 := inR2 j hj e.1 (hS _ e.2)
          rcases setT_in hq with e2 | e2
          · rw [e2]; exact e3.2
          · rcases setT_in e2 with e2 | e2
            · rw [e2]; exact e3.1
            · exact hS q e2
        · exact hS q hq
    intro q h
    rw [← hCe] at h
    exact a1 8 q h
  have RC : ∀ q, Rs q = true → Cs q = true := by
    have a1 : ∀ k q, iter (fun S => foldP (stR K A B C) S n) (fun _ => false) k q = true → Cs q = true := by
      intro k
      induction k with
      | zero => intro q h; cases h
      | succ k ih =>
        refine fold_sub (fun j hj S hS q hq => ?_) ih n (Nat.le_refl _)
        unfold stR at hq
        split at hq
        · rename_i e
          have e3 := inC2 j hj e.1 (hS _ e.2)
          rcases setT_in hq with e2 | e2
          · rw [e2]; exact e3.2
          · rcases setT_in e2 with e2 | e2
            · rw [e2]; exact e3.1
            · exact hS q e2
        · split at hq
          · rename_i e
            rcases setT_in hq with e2 | e2
            · rw [e2]; exact inC1 j hj e
            · exact hS q e2
          · exact hS q hq
    intro q h
    rw [← hRe] at h
    exact a1 9 q h
  cases hc : Cs q with
  | true => exact (CR q hc).symm
  | false =>
    cases hr : Rs q with
    | true => rw [RC q hr] at hc; cases hc
    | false => rfl
