/-- a move of the reference's address stream, at instruction j, with starved put out already -/
def mA2 (t : ST) (j : Nat) : OR := if (t.2 0 j) = 4 then obn (m_load t (nI j)) (fun r z => gib r (some (r, z))) else if (t.2 0 j) = 5 then obn (m_store t (nI j)) (fun r z => gib r (some (r, z))) else if fBel (t.2 0 j) (t.2 1 j) (t.2 2 j) (t.2 4) = 1 then (if fBr (t.2 0 j) = 0 then obn (m_hasRoom t 4 (fHm (t.2 4) (fR1 (t.2 0 j) (t.2 1 j) (t.2 2 j)) (fR2 (t.2 0 j) (t.2 2 j) (t.2 3 j)))) (fun r13 z13 => if r13 = 0 then some (0, z13) else obn (m_hand z13 (nI j)) (fun _ z14 => obn (m_leave z14 0 (nI j + 1)) (fun _ z15 => some (1, z15)))) else obn (m_follow t (nI j)) (fun r z => gib r (some (r, z)))) else (if fBr (t.2 0 j) = 0 then m_moveAddress_236 t (nI j) (t.2 0 j) (t.2 1 j) (fOp (t.2 0 j) (t.2 5 (t.2 2 j).toNatClampNeg) (t.2 5 (t.2 3 j).toNatClampNeg) (t.2 3 j)) else obn (m_hasRoom t 2 1) (fun r9 z9 => if r9 = 0 then some (0, z9) else m_moveAddress_161 z9 (nI j) (t.2 0 j) (fTst (t.2 0 j) (z9.2 5 (z9.2 1 j).toNatClampNeg) (z9.2 5 (z9.2 2 j).toNatClampNeg)) 2 (fTst (t.2 0 j) (z9.2 5 (z9.2 1 j).toNatClampNeg) (z9.2 5 (z9.2 2 j).toNatClampNeg))))
theorem R8_16 {r : Int32} (h : R8 r) : inR r 16 = true := by
  obtain ⟨i, hi, rfl⟩ := h
  exact inR_n (by omega) (by decide)
theorem mq_roomS {t : ST} {x : Int32} {q n m : Nat} (hx : x = nI q) (hq : q < 5) (hn : n ≤ 6) (hm : m ≤ 2) (h : t.2 10 q = nI n) : ∃ b, B01 b ∧ m_hasRoom t x (nI m) = some (b, t) := by
  rw [mq_room hx hq hn hm h]
  refine ⟨_, ?_, rfl⟩
  by_cases e : n + m ≤ (if q = 4 then 6 else 4)
  · rw [if_pos e]; exact Or.inr rfl
  · rw [if_neg e]; exact Or.inl rfl
theorem mA_form {bd N j : Nat} {z t : ST} (h : Rel bd N z (stI t 5 0)) (hj : j < N) (hp : t.2 6 0 = nI j) : m_moveAddress t = mA2 (stI t 5 0) j := by
  have hat := R_at h hj
  obtain ⟨f2, n2, -, hn2, -, -, g2, -⟩ := Rq_n2 h
  obtain ⟨f4, n4, -, hn4, -, -, g4, -⟩ := Rq_n4 h
  simp only [m_moveAddress, gin_r (show inR (0 : Int32) 2 = true by decide), show (0 : Int32).toNatClampNeg = 0 by decide, hp, gib_0, bnd_s]
  generalize stI t 5 0 = t at h hat g2 g4 ⊢
  obtain ⟨hN, -, e00, ok, e0, e1, e2, e3, -⟩ := hat
  rw [e00, if_pos (nI_lt hj (by omega))]
  simp only [gin_n (show j < 24 by omega) (by decide : 24 < 2 ^ 31), cl_n (show j < 2 ^ 31 by omega), m_belongs_s (show j < 24 by omega) ok, m_isBranch_s (show j < 24 by omega), m_howMany_s (show j < 24 by omega) ok, obn_s, gib_1, m_holds_s]
  unfold mA2
  by_cases k4 : (t.2 0 j) = 4
  · rw [if_pos k4, if_pos k4]
  · by_cases k5 : (t.2 0 j) = 5
    · rw [if_neg k4, if_pos k5, if_neg k4, if_pos k5]
    · rw [if_neg k4, if_neg k5, if_neg k4, if_neg k5]
      by_cases hb : fBel (t.2 0 j) (t.2 1 j) (t.2 2 j) (t.2 4) = 1
      · rw [if_pos hb, if_pos hb]
      · rw [if_neg hb, if_neg hb]
        have hb0 : fBel (t.2 0 j) (t.2 1 j) (t.2 2 j) (t.2 4) = 0 := by
          rcases fBel_01 (k := (t.2 0 j)) (a := (t.2 1 j)) (b := (t.2 2 j)) (d := (t.2 4)) with q | q
          · exact q
          · exact absurd q hb
        rcases fBr_s ok with ⟨b0, n6, n7⟩ | ⟨b1, k67⟩
        · rw [if_pos b0, if_pos b0]
          have n8 : ¬ (t.2 0 j) = 8 := by
            intro e
            rw [e] at hb0
            revert hb0
            simp (decide := true) only [fBel, if_false, if_true, or_self, false_or, not_false_eq_true]
          rcases okI_sa ok k4 k5 n6 n7 n8 with s | ⟨s, bb, cc⟩
          · simp (decide := true) only [s, if_true, fOp]
          · have nz : ¬ (t.2 0 j) = 0 := by rcases s with s | s | s <;> (rw [s]; decide)
            rw [if_neg nz]
            simp only [gin_r (R8_16 bb), gin_r (R8_16 cc), m_reckon_s (c := (t.2 3 j)) t s, obn_s]
        · rw [if_neg (by rw [b1]; decide), if_neg (by rw [b1]; decide)]
          obtain ⟨hbb, -⟩ := okI_br ok k67
          obtain ⟨b, hb01, room⟩ := mq_roomS (x := 2) (q := 2) (m := 1) (by decide) (by decide) (by omega) (by decide) g2
          rw [show nI 1 = (1 : Int32) by decide] at room
          simp only [room, obn_s]
          rcases hb01 with q | q
          · rw [if_pos q, if_pos q]
          · have nb : ¬ b = 0 := by rw [q]; decide
            rw [if_neg nb, if_neg nb]
            simp only [gin_r (R8_16 ok.1), gin_r (R8_16 hbb)]
            rcases fTst_01 (k := (t.2 0 j)) (x := t.2 5 (t.2 1 j).toNatClampNeg) (y := t.2 5 (t.2 2 j).toNatClampNeg) with o | o
            · rw [o, if_pos rfl]
            · rw [o, if_neg (by decide)]
