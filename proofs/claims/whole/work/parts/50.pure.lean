-- the relation between the class's state z and the reference's state t
def RQ (P : Int32 → Prop) (c : Nat) (F S : Int32) (a : Nat → Int32) (l : Int32) (row : Nat → Int32) : Prop := ∃ f n : Nat, f < c ∧ n ≤ c ∧ F = nI f ∧ S = nI n ∧ l = nI n ∧ ∀ j, j < n → a ((f + j) % c) = row j ∧ P (row j)
def B01 (v : Int32) : Prop := v = 0 ∨ v = 1
def RS (b : Bool) (F S : Int32) (ad va kn : Nat → Int32) (l : Int32) (sa sw st : Nat → Int32) : Prop := ∃ f n : Nat, f < 6 ∧ n ≤ 6 ∧ F = nI f ∧ S = nI n ∧ l = nI n ∧ (∀ j, j < n → ad ((f + j) % 6) = sa j ∧ (∃ w : Nat, w < 32 ∧ sa j = nI w) ∧ kn ((f + j) % 6) = st j ∧ B01 (st j) ∧ (st j = 1 → va ((f + j) % 6) = sw j)) ∧ (b = true → 0 < n → st 0 = 0)
def RP (N : Nat) (zn : Int32) (zk za zb zc : Nat → Int32) (tn : Int32) (tk ta tb tc : Nat → Int32) : Prop := N ≤ 24 ∧ zn = nI N ∧ tn = nI N ∧ ∀ j, j < N → zk j = tk j ∧ za j = ta j ∧ zb j = tb j ∧ zc j = tc j ∧ okI (tk j) (ta j) (tb j) (tc j)
def eqB (n o : Nat) (f g : Nat → Int32) : Prop := ∀ j, j < n → f j = g (o + j)
def RAt (x y : Int32) : Prop := ∃ a : Nat, a ≤ 24 ∧ x = nI a ∧ y = nI a
def RW (bd o : Nat) (x y : Int32) (f g : Nat → Int32) : Prop := ∃ c : Nat, c ≤ bd ∧ x = nI c ∧ y = nI c ∧ ∀ j, j < c → j < 64 → f j = g (o + j)
def RelS (b : Bool) (s : Bool × Bool) (bd N : Nat) (z t : ST) : Prop :=
  RP N (z.1 1) (z.2 0) (z.2 1) (z.2 2) (z.2 3) (t.1 0) (t.2 0) (t.2 1) (t.2 2) (t.2 3) ∧ MB (z.1 2) (t.2 4) ∧ (∀ q, q < 8 → B01 (t.2 4 q)) ∧ (∀ j, j < N → TB (t.2 4) z j) ∧
  (∀ j, j < 32 → z.2 10 j = t.1 1 + nI j * t.1 2) ∧ eqB 32 0 (z.2 11) (t.2 8) ∧
  RQ (fun _ => True) 4 (z.1 3) (z.1 4) (z.2 12) (t.2 10 0) (fun j => t.2 9 (0 + j)) ∧ RQ (fun _ => True) 4 (z.1 5) (z.1 6) (z.2 13) (t.2 10 1) (fun j => t.2 9 (6 + j)) ∧ RQ B01 4 (z.1 7) (z.1 8) (z.2 14) (t.2 10 2) (fun j => t.2 9 (12 + j)) ∧ RQ B01 4 (z.1 9) (z.1 10) (z.2 15) (t.2 10 3) (fun j => t.2 9 (18 + j)) ∧ RQ (fun _ => True) 6 (z.1 11) (z.1 12) (z.2 16) (t.2 10 4) (fun j => t.2 9 (24 + j)) ∧
  RS b (z.1 13) (z.1 14) (z.2 17) (z.2 18) (z.2 19) (t.1 6) (t.2 11) (t.2 12) (t.2 13) ∧
  eqB 8 0 (z.2 20) (t.2 5) ∧ (∀ j, j < 8 → t.2 4 j = 0 → z.2 21 j = t.2 5 (8 + j)) ∧
  RAt (z.1 15) (t.2 6 0) ∧ (RAt (z.1 18) (t.2 6 1) ∧ (s.2 = true → ∀ j, j < N → t.2 6 1 = nI j → fN1 (t.2 0 j) (t.2 1 j) (t.2 2 j) (t.2 4) = 0)) ∧ z.1 16 = t.2 7 0 ∧ z.1 19 = t.2 7 1 ∧ (s.1 = true → z.1 17 = t.1 3 ∧ B01 (t.1 3)) ∧ z.1 0 = t.1 4 ∧
  RW bd 0 (z.1 20) (t.1 8) (z.2 22) (t.2 16) ∧ eqB 8 0 (z.2 23) (t.2 14) ∧ eqB 32 0 (z.2 24) (t.2 15) ∧ RAt (z.1 21) (t.1 7) ∧ RW bd 64 (z.1 22) (t.1 9) (z.2 25) (t.2 16)
abbrev RelG (s : Bool × Bool) (bd N : Nat) (z t : ST) : Prop := RelS true s bd N z t
abbrev Rel (bd N : Nat) (z t : ST) : Prop   := RelG (true, true) bd N z t
theorem RQ_put {P : Int32 → Prop} {c f n : Nat} {a row : Nat → Int32} {v : Int32} (hf : f < c) (hn : n < c) (hv : P v) (h : ∀ j, j < n → a ((f + j) % c) = row j ∧ P (row j)) : RQ P c (nI f) (nI (n + 1)) (upd a ((f + n) % c) v) (nI (n + 1)) (upd row n v) := by
  refine ⟨f, n + 1, hf, by omega, rfl, rfl, rfl, fun j hj => ?_⟩
  by_cases e : j = n
  · subst e
    simp only [upd, if_true]
    exact ⟨trivial, hv⟩
  · have h1 := h j (by omega)
    have ne : ¬ (f + j) % c = (f + n) % c := by
      intro h2
      have e1 : (f + j) % c = if f + j < c then f + j else f + j - c := by
        split
        · exact Nat.mod_eq_of_lt (by omega)
        · rw [Nat.mod_eq_sub_mod (by omega), Nat.mod_eq_of_lt (by omega)]
      have e2 : (f + n) % c = if f + n < c then f + n else f + n - c := by
        split
        · exact Nat.mod_eq_of_lt (by omega)
        · rw [Nat.mod_eq_sub_mod (by omega), Nat.mod_eq_of_lt (by omega)]
      rw [e1, e2] at h2
      split at h2 <;> split at h2 <;> omega
    simp only [upd, if_neg ne, if_neg e]
    exact h1
theorem RQ_take {P : Int32 → Prop} {c f n : Nat} {a row row' : Nat → Int32} (hf : f < c) (hn : 0 < n) (hc : n ≤ c) (h : ∀ j, j < n → a ((f + j) % c) = row j ∧ P (row j)) (hr : ∀ j, j < n - 1 → row' j = row (j + 1)) : RQ P c (nI ((f + 1) % c)) (nI (n - 1)) a (nI (n - 1)) row' := by
  refine ⟨(f + 1) % c, n - 1, Nat.mod_lt _ (by omega), by omega, rfl, rfl, rfl, fun j hj => ?_⟩
  have h1 := h (j + 1) (by omega)
  rw [hr j hj, Nat.mod_add_mod, Nat.add_assoc, Nat.add_comm 1 j]
  exact h1
theorem wrap {f n c : Nat} (hf : f < c) (hn : n < c) : (f + n) % c = if c ≤ f + n then f + n - c else f + n := by
  split
  · rw [Nat.mod_eq_sub_mod (by omega), Nat.mod_eq_of_lt (by omega)]
  · exact Nat.mod_eq_of_lt (by omega)
theorem xq_put0 {z : ST} {f n : Nat} {v : Int32} (hf : f < 4) (hn : n < 4) (h1 : z.1 3 = nI f) (h2 : z.1 4 = nI n) : x_Fifo_put_15 z v = some (0, stI (stA z 12 (upd (z.2 12) ((f + n) % 4) v)) 4 (nI (n + 1))) := by
  have e34 : ∀ (j : Nat) (y2 : Int32), j < 4 → x_Fifo_put_15_34 z v y2 (nI j) = some (0, stI (stA z 12 (upd (z.2 12) j v)) 4 (nI (n + 1))) := by
    intro j y2 hj
    simp only [x_Fifo_put_15_34, gin_n hj (by decide : 4 < 2 ^ 31), cl_n (show j < 2 ^ 31 by omega), bnd_s, s2_1, h2, nI_1]
  simp only [x_Fifo_put_15, h1, h2, nI_add]
  rw [wrap hf hn, show (4 : Int32) = nI 4 by decide]
  by_cases e : 4 ≤ f + n
  · rw [if_pos e, if_pos (nI_le e (by omega)), pk_sub e, e34 _ _ (by omega)]
  · rw [if_neg e, if_neg (nI_ge (by omega) (by omega)), e34 _ _ (by omega)]
theorem xq_take0 {z : ST} {f n : Nat} (hf : f < 4) (hn : 0 < n) (h1 : z.1 3 = nI f) (h2 : z.1 4 = nI n) : x_Fifo_take_15 z = some (z.2 12 f, stI (stI z 3 (nI ((f + 1) % 4))) 4 (nI (n - 1))) := by
  have es : nI n - 1 = nI (n - 1) := by
    obtain ⟨m, rfl⟩ : ∃ m, n = m + 1 := ⟨n - 1, by omega⟩
    exact nI_pred m
  simp only [x_Fifo_take_15, x_Fifo_take_15_35, h1, gin_n hf (by decide : 4 < 2 ^ 31), cl_n (show f < 2 ^ 31 by omega), bnd_s, nI_1]
  rw [show (4 : Int32) = nI 4 by decide]
  have s1 : ∀ w, (stI z 3 w).1 4 = nI n := fun w => by rw [s1_n (by decide)]; exact h2
  by_cases e : 4 ≤ f + 1
  · rw [if_pos (nI_le e (by omega)), s1, es, show (f + 1) % 4 = 0 by omega, nI_0]
  · rw [if_neg (nI_ge (by omega) (by omega)), s1, es, show (f + 1) % 4 = f + 1 by omega]
theorem xq_room0 {z : ST} {n m : Nat} (hn : n ≤ 4) (hm : m ≤ 2) (h2 : z.1 4 = nI n) : x_Fifo_hasRoomFor_15 z (nI m) = some (if n + m ≤ 4 then 1 else 0, z) := by
  simp only [x_Fifo_hasRoomFor_15, h2, nI_add, gib_0, gib_1]
  rw [show (4 : Int32) = nI 4 by decide]
  by_cases e : n + m ≤ 4
  · rw [if_pos e, if_neg (nI_nlt e (by omega))]
  · rw [if_neg e, if_pos (nI_lt (by omega) (by omega))]
theorem xq_put1 {z : ST} {f n : Nat} {v : Int32} (hf : f < 4) (hn : n < 4) (h1 : z.1 5 = nI f) (h2 : z.1 6 = nI n) : x_Fifo_put_16 z v = some (0, stI (stA z 13 (upd (z.2 13) ((f + n) % 4) v)) 6 (nI (n + 1))) := by
  have e34 : ∀ (j : Nat) (y2 : Int32), j < 4 → x_Fifo_put_16_34 z v y2 (nI j) = some (0, stI (stA z 13 (upd (z.2 13) j v)) 6 (nI (n + 1))) := by
    intro j y2 hj
    simp only [x_Fifo_put_16_34, gin_n hj (by decide : 4 < 2 ^ 31), cl_n (show j < 2 ^ 31 by omega), bnd_s, s2_1, h2, nI_1]
  simp only [x_Fifo_put_16, h1, h2, nI_add]
  rw [wrap hf hn, show (4 : Int32) = nI 4 by decide]
  by_cases e : 4 ≤ f + n
  · rw [if_pos e, if_pos (nI_le e (by omega)), pk_sub e, e34 _ _ (by omega)]
  · rw [if_neg e, if_neg (nI_ge (by omega) (by omega)), e34 _ _ (by omega)]
theorem xq_take1 {z : ST} {f n : Nat} (hf : f < 4) (hn : 0 < n) (h1 : z.1 5 = nI f) (h2 : z.1 6 = nI n) : x_Fifo_take_16 z = some (z.2 13 f, stI (stI z 5 (nI ((f + 1) % 4))) 6 (nI (n - 1))) := by
  have es : nI n - 1 = nI (n - 1) := by
    obtain ⟨m, rfl⟩ : ∃ m, n = m + 1 := ⟨n - 1, by omega⟩
    exact nI_pred m
  simp only [x_Fifo_take_16, x_Fifo_take_16_35, h1, gin_n hf (by decide : 4 < 2 ^ 31), cl_n (show f < 2 ^ 31 by omega), bnd_s, nI_1]
  rw [show (4 : Int32) = nI 4 by decide]
  have s1 : ∀ w, (stI z 5 w).1 6 = nI n := fun w => by rw [s1_n (by decide)]; exact h2
  by_cases e : 4 ≤ f + 1
  · rw [if_pos (nI_le e (by omega)), s1, es, show (f + 1) % 4 = 0 by omega, nI_0]
  · rw [if_neg (nI_ge (by omega) (by omega)), s1, es, show (f + 1) % 4 = f + 1 by omega]
theorem xq_room1 {z : ST} {n m : Nat} (hn : n ≤ 4) (hm : m ≤ 2) (h2 : z.1 6 = nI n) : x_Fifo_hasRoomFor_16 z (nI m) = some (if n + m ≤ 4 then 1 else 0, z) := by
  simp only [x_Fifo_hasRoomFor_16, h2, nI_add, gib_0, gib_1]
  rw [show (4 : Int32) = nI 4 by decide]
  by_cases e : n + m ≤ 4
  · rw [if_pos e, if_neg (nI_nlt e (by omega))]
  · rw [if_neg e, if_pos (nI_lt (by omega) (by omega))]
theorem xq_put2 {z : ST} {f n : Nat} {v : Int32} (hf : f < 4) (hn : n < 4) (h1 : z.1 7 = nI f) (h2 : z.1 8 = nI n) : x_Fifo_put_17 z v = some (0, stI (stA z 14 (upd (z.2 14) ((f + n) % 4) v)) 8 (nI (n + 1))) := by
  have e34 : ∀ (j : Nat) (y2 : Int32), j < 4 → x_Fifo_put_17_34 z v y2 (nI j) = some (0, stI (stA z 14 (upd (z.2 14) j v)) 8 (nI (n + 1))) := by
    intro j y2 hj
    simp only [x_Fifo_put_17_34, gin_n hj (by decide : 4 < 2 ^ 31), cl_n (show j < 2 ^ 31 by omega), bnd_s, s2_1, h2, nI_1]
  simp only [x_Fifo_put_17, h1, h2, nI_add]
  rw [wrap hf hn, show (4 : Int32) = nI 4 by decide]
  by_cases e : 4 ≤ f + n
  · rw [if_pos e, if_pos (nI_le e (by omega)), pk_sub e, e34 _ _ (by omega)]
  · rw [if_neg e, if_neg (nI_ge (by omega) (by omega)), e34 _ _ (by omega)]
theorem xq_take2 {z : ST} {f n : Nat} (hf : f < 4) (hn : 0 < n) (h1 : z.1 7 = nI f) (h2 : z.1 8 = nI n) : x_Fifo_take_17 z = some (z.2 14 f, stI (stI z 7 (nI ((f + 1) % 4))) 8 (nI (n - 1))) := by
  have es : nI n - 1 = nI (n - 1) := by
    obtain ⟨m, rfl⟩ : ∃ m, n = m + 1 := ⟨n - 1, by omega⟩
    exact nI_pred m
  simp only [x_Fifo_take_17, x_Fifo_take_17_35, h1, gin_n hf (by decide : 4 < 2 ^ 31), cl_n (show f < 2 ^ 31 by omega), bnd_s, nI_1]
  rw [show (4 : Int32) = nI 4 by decide]
  have s1 : ∀ w, (stI z 7 w).1 8 = nI n := fun w => by rw [s1_n (by decide)]; exact h2
  by_cases e : 4 ≤ f + 1
  · rw [if_pos (nI_le e (by omega)), s1, es, show (f + 1) % 4 = 0 by omega, nI_0]
  · rw [if_neg (nI_ge (by omega) (by omega)), s1, es, show (f + 1) % 4 = f + 1 by omega]
theorem xq_room2 {z : ST} {n m : Nat} (hn : n ≤ 4) (hm : m ≤ 2) (h2 : z.1 8 = nI n) : x_Fifo_hasRoomFor_17 z (nI m) = some (if n + m ≤ 4 then 1 else 0, z) := by
  simp only [x_Fifo_hasRoomFor_17, h2, nI_add, gib_0, gib_1]
  rw [show (4 : Int32) = nI 4 by decide]
  by_cases e : n + m ≤ 4
  · rw [if_pos e, if_neg (nI_nlt e (by omega))]
  · rw [if_neg e, if_pos (nI_lt (by omega) (by omega))]
theorem xq_put3 {z : ST} {f n : Nat} {v : Int32} (hf : f < 4) (hn : n < 4) (h1 : z.1 9 = nI f) (h2 : z.1 10 = nI n) : x_Fifo_put_18 z v = some (0, stI (stA z 15 (upd (z.2 15) ((f + n) % 4) v)) 10 (nI (n + 1))) := by
  have e34 : ∀ (j : Nat) (y2 : Int32), j < 4 → x_Fifo_put_18_34 z v y2 (nI j) = some (0, stI (stA z 15 (upd (z.2 15) j v)) 10 (nI (n + 1))) := by
    intro j y2 hj
    simp only [x_Fifo_put_18_34, gin_n hj (by decide : 4 < 2 ^ 31), cl_n (show j < 2 ^ 31 by omega), bnd_s, s2_1, h2, nI_1]
  simp only [x_Fifo_put_18, h1, h2, nI_add]
  rw [wrap hf hn, show (4 : Int32) = nI 4 by decide]
  by_cases e : 4 ≤ f + n
  · rw [if_pos e, if_pos (nI_le e (by omega)), pk_sub e, e34 _ _ (by omega)]
  · rw [if_neg e, if_neg (nI_ge (by omega) (by omega)), e34 _ _ (by omega)]
theorem xq_take3 {z : ST} {f n : Nat} (hf : f < 4) (hn : 0 < n) (h1 : z.1 9 = nI f) (h2 : z.1 10 = nI n) : x_Fifo_take_18 z = some (z.2 15 f, stI (stI z 9 (nI ((f + 1) % 4))) 10 (nI (n - 1))) := by
  have es : nI n - 1 = nI (n - 1) := by
    obtain ⟨m, rfl⟩ : ∃ m, n = m + 1 := ⟨n - 1, by omega⟩
    exact nI_pred m
  simp only [x_Fifo_take_18, x_Fifo_take_18_35, h1, gin_n hf (by decide : 4 < 2 ^ 31), cl_n (show f < 2 ^ 31 by omega), bnd_s, nI_1]
  rw [show (4 : Int32) = nI 4 by decide]
  have s1 : ∀ w, (stI z 9 w).1 10 = nI n := fun w => by rw [s1_n (by decide)]; exact h2
  by_cases e : 4 ≤ f + 1
  · rw [if_pos (nI_le e (by omega)), s1, es, show (f + 1) % 4 = 0 by omega, nI_0]
  · rw [if_neg (nI_ge (by omega) (by omega)), s1, es, show (f + 1) % 4 = f + 1 by omega]
theorem xq_room3 {z : ST} {n m : Nat} (hn : n ≤ 4) (hm : m ≤ 2) (h2 : z.1 10 = nI n) : x_Fifo_hasRoomFor_18 z (nI m) = some (if n + m ≤ 4 then 1 else 0, z) := by
  simp only [x_Fifo_hasRoomFor_18, h2, nI_add, gib_0, gib_1]
  rw [show (4 : Int32) = nI 4 by decide]
  by_cases e : n + m ≤ 4
  · rw [if_pos e, if_neg (nI_nlt e (by omega))]
  · rw [if_neg e, if_pos (nI_lt (by omega) (by omega))]
theorem xq_put4 {z : ST} {f n : Nat} {v : Int32} (hf : f < 6) (hn : n < 6) (h1 : z.1 11 = nI f) (h2 : z.1 12 = nI n) : x_Fifo_put_19 z v = some (0, stI (stA z 16 (upd (z.2 16) ((f + n) % 6) v)) 12 (nI (n + 1))) := by
  have e34 : ∀ (j : Nat) (y2 : Int32), j < 6 → x_Fifo_put_19_34 z v y2 (nI j) = some (0, stI (stA z 16 (upd (z.2 16) j v)) 12 (nI (n + 1))) := by
    intro j y2 hj
    simp only [x_Fifo_put_19_34, gin_n hj (by decide : 6 < 2 ^ 31), cl_n (show j < 2 ^ 31 by omega), bnd_s, s2_1, h2, nI_1]
  simp only [x_Fifo_put_19, h1, h2, nI_add]
  rw [wrap hf hn, show (6 : Int32) = nI 6 by decide]
  by_cases e : 6 ≤ f + n
  · rw [if_pos e, if_pos (nI_le e (by omega)), pk_sub e, e34 _ _ (by omega)]
  · rw [if_neg e, if_neg (nI_ge (by omega) (by omega)), e34 _ _ (by omega)]
theorem xq_take4 {z : ST} {f n : Nat} (hf : f < 6) (hn : 0 < n) (h1 : z.1 11 = nI f) (h2 : z.1 12 = nI n) : x_Fifo_take_19 z = some (z.2 16 f, stI (stI z 11 (nI ((f + 1) % 6))) 12 (nI (n - 1))) := by
  have es : nI n - 1 = nI (n - 1) := by
    obtain ⟨m, rfl⟩ : ∃ m, n = m + 1 := ⟨n - 1, by omega⟩
    exact nI_pred m
  simp only [x_Fifo_take_19, x_Fifo_take_19_35, h1, gin_n hf (by decide : 6 < 2 ^ 31), cl_n (show f < 2 ^ 31 by omega), bnd_s, nI_1]
  rw [show (6 : Int32) = nI 6 by decide]
  have s1 : ∀ w, (stI z 11 w).1 12 = nI n := fun w => by rw [s1_n (by decide)]; exact h2
  by_cases e : 6 ≤ f + 1
  · rw [if_pos (nI_le e (by omega)), s1, es, show (f + 1) % 6 = 0 by omega, nI_0]
  · rw [if_neg (nI_ge (by omega) (by omega)), s1, es, show (f + 1) % 6 = f + 1 by omega]
theorem xq_room4 {z : ST} {n m : Nat} (hn : n ≤ 6) (hm : m ≤ 2) (h2 : z.1 12 = nI n) : x_Fifo_hasRoomFor_19 z (nI m) = some (if n + m ≤ 6 then 1 else 0, z) := by
  simp only [x_Fifo_hasRoomFor_19, h2, nI_add, gib_0, gib_1]
  rw [show (6 : Int32) = nI 6 by decide]
  by_cases e : n + m ≤ 6
  · rw [if_pos e, if_neg (nI_nlt e (by omega))]
  · rw [if_neg e, if_pos (nI_lt (by omega) (by omega))]
