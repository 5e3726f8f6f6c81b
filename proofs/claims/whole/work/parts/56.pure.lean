theorem m_store_124_s {t : ST} {j n : Nat} {y2 v : Int32} (hn : n < 6) (h6 : t.1 6 = nI n) : m_store_124 t (nI j) y2 (nI n) v = obn (m_drain (stI (stA t 12 (upd (t.2 12) n v)) 6 (nI (n + 1)))) (fun _ z3 => obn (m_leave z3 0 (nI j + 1)) (fun _ z4 => some (1, z4))) := by
  simp only [m_store_124, gin_n hn (by decide : 6 < 2 ^ 31), cl_n (show n < 2 ^ 31 by omega), bnd_s, s2_1, h6, nI_1, gib_1]
theorem m_store_own {t : ST} {j n w ia : Nat} (hj : j < 24) (hn : n < 6) (f3 : t.1 6 = nI n) (hair : inR (t.2 1 j) 8 = true) (hir : inR (t.2 1 j) 16 = true) (hac : (t.2 1 j).toNatClampNeg = ia) (w2 : ((t.2 5 (t.2 2 j).toNatClampNeg) + (t.2 3 j)) &&& 31 = nI w) (w3 : inR (t.2 2 j) 16 = true) (own : ¬ t.2 4 ia = 0) : m_store t (nI j) = m_store_79 (stA t 11 (upd (t.2 11) n (nI w))) (nI j) (t.2 4 ia) (nI n) 1 := by
  have ne6 : ¬ nI n = 6 := by rw [show (6 : Int32) = nI 6 by decide]; exact fun h => by have := (nI_eq (by omega) (by omega)).mp h; omega
  simp only [m_store, f3, if_neg ne6, gin_n (show j < 24 by omega) (by decide : 24 < 2 ^ 31), cl_n (show j < 2 ^ 31 by omega), gin_r hair, gin_r w3, w2, gin_n hn (by decide : 6 < 2 ^ 31), cl_n (show n < 2 ^ 31 by omega), bnd_s, hac, if_neg own, m_store_74]
  rw [show (stA t 11 (upd (t.2 11) n (nI w))).1 6 = nI n from f3]
theorem m_store_79_own {t : ST} {j n ia : Nat} {y : Int32} (hj : j < 24) (hn : n < 6) (f3 : t.1 6 = nI n) (hir : inR (t.2 1 j) 16 = true) (hac : (t.2 1 j).toNatClampNeg = ia) (own : ¬ y = 0) : m_store_79 t (nI j) y (nI n) 1 = m_store_124 (stA t 13 (upd (t.2 13) n 1)) (nI j) y (nI n) (t.2 5 ia) := by
  have q1 : ∀ g : Nat → Int32, (stA t 13 g).2 1 = t.2 1 := fun _ => rfl
  have q5 : ∀ g : Nat → Int32, (stA t 13 g).2 5 = t.2 5 := fun _ => rfl
  have q6 : ∀ g : Nat → Int32, (stA t 13 g).1 6 = nI n := fun _ => f3
  simp only [m_store_79, gin_n (show j < 24 by omega) (by decide : 24 < 2 ^ 31), cl_n (show j < 2 ^ 31 by omega), gin_n hn (by decide : 6 < 2 ^ 31), cl_n (show n < 2 ^ 31 by omega), gib_1, bnd_s, if_neg own, q1, q5, q6, gin_r hir, hac]
/-- a store of the address stream -/
theorem A_store {bd N j : Nat} {z t : ST} (h : Rel bd N z t) (hj : j < N) (hk : t.2 0 j = 5) : ∃ r z' t', B01 r ∧ x_AddressStream_store_29 z (nI j) = some (r, z') ∧ m_store t (nI j) = some (r, t') ∧ Rel bd N z' t' ∧ t'.1 5 = t.1 5 ∧ (r = 0 → z' = z) := by
  obtain ⟨hN, -, -, ok, e0, e1, e2, e3, -⟩ := R_at h hj
  have hb : R8 (t.2 2 j) := okI_ls ok (Or.inr hk)
  obtain ⟨w, hw, w1, w2, w3⟩ := W_s h hj hb
  obtain ⟨ia, hia, hae, hac, hair, -⟩ := R8_cl ok.1
  obtain ⟨hM, hD, hA, -⟩ := R_mb h
  obtain ⟨f, n, hf, hn6, f1, f2, f3, f4, f5⟩ := Rs_n h
  obtain ⟨qf, m, hqf, hm, g1, g2, g3, g4⟩ := Rq_n1 h
  have hfull : x_StoreList_isFull_25 z = some (if n < 6 then 0 else 1, z) := by
    simp only [x_StoreList_isFull_25, f2, gib_0, gib_1]
    rw [show (6 : Int32) = nI 6 by decide]
    by_cases e : n < 6
    · rw [if_pos e, if_pos (nI_lt e (by omega))]
    · rw [if_neg e, if_neg (nI_nlt (by omega) (by omega))]
  by_cases hn : n < 6
  · have isa : x_Program_isAddressRegister_1 z (t.2 1 j) = some (if t.2 4 ia = 0 then 0 else 1, z) := by rw [x_isAddr_s hM (Or.inr ok.1), fAd_R8 ok.1, hac]
    have hp : ∀ b, Rel bd N z (stA (stA t 11 (upd (t.2 11) n (nI w))) 13 (upd (t.2 13) n b)) := fun b => Rs_pre h f3 hn6
    have ne6 : ¬ nI n = 6 := by rw [show (6 : Int32) = nI 6 by decide]; exact fun h => by have := (nI_eq (by omega) (by omega)).mp h; omega
    have hA20 := hA ia hia
    rw [Nat.zero_add] at hA20
    by_cases own : t.2 4 ia = 0
    · by_cases hm0 : m = 0
      · -- no value yet
        subst hm0
        obtain ⟨z1, a1, a2, a3, a4⟩ := Rs_enter (n := n) (w := w) (a := nI w) (v := 0) (hp 0) f2 hn rfl hw (by simp [stA, upd]) (by simp [stA, upd])
        obtain ⟨z', t', k1, k2, k3, k4⟩ := A_leave (j := j) a2 (by omega)
        refine ⟨1, z', t', Or.inr rfl, ?_, ?_, k3, by rw [k4.2.2.1]; rfl, fun h => absurd h (by decide)⟩
        · simp (decide := true) only [x_AddressStream_store_29, hfull, obn_s, if_pos hn, if_true, gin_n (show j < 24 by omega) (by decide : 24 < 2 ^ 31), cl_n (show j < 2 ^ 31 by omega), e1, isa, if_pos own, g2, nI_0, w1, a1, x_AddressStream_store_29_116, k1, gib_1, Int32.le_refl]
        · simp only [m_store, f3, if_neg ne6, gin_n (show j < 24 by omega) (by decide : 24 < 2 ^ 31), cl_n (show j < 2 ^ 31 by omega), gin_r hair, gin_r w3, w2, gin_n hn (by decide : 6 < 2 ^ 31), cl_n (show n < 2 ^ 31 by omega), bnd_s, hac, if_pos own]
          have e10 : ∀ g : Nat → Int32, (stA t 11 g).2 10 (1 : Int32).toNatClampNeg = 0 := fun g => by
            show t.2 10 1 = 0
            rw [g3]; rfl
          have e6 : ∀ g : Nat → Int32, (stA t 11 g).1 6 = nI n := fun g => f3
          simp (decide := true) only [e10, e6, if_true, gin_r (show inR (1 : Int32) 5 = true by decide), m_store_79, gin_n hn (by decide : 6 < 2 ^ 31), cl_n (show n < 2 ^ 31 by omega), gib_0, bnd_s, own]
          have e10' : ∀ g g' : Nat → Int32, (stA (stA t 11 g) 13 g').2 10 (1 : Int32).toNatClampNeg = 0 := fun g g' => by
            show t.2 10 1 = 0
            rw [g3]; rfl
          have e6' : ∀ g g' : Nat → Int32, (stA (stA t 11 g) 13 g').1 6 = nI n := fun g g' => f3
          simp (decide := true) only [e10', e6', if_true]
          rw [show (stA t 11 (upd (t.2 11) n (nI w))).2 13 = t.2 13 from rfl, m_store_124_s (t := stA (stA t 11 (upd (t.2 11) n (nI w))) 13 (upd (t.2 13) n 0)) hn f3]
          have dn := md_noop a2
          rw [dn]
          simp only [obn_s, k2]
      · -- the value waits already
        obtain ⟨v, z1, t1, a1, a2, a3, a4, a5, a6, a7⟩ := Rq_take1 (n := m) (hp 1) (by omega) hm g2
        obtain ⟨t1', b1, b2, b3, b4, b5⟩ := mq_take (t := stA (stA t 11 (upd (t.2 11) n (nI w))) 13 (upd (t.2 13) n 1)) (q := 1) (n := m) (x := 1) (by decide) (by decide) (by omega) (by omega) g3
        have et : t1 = t1' := by
          have := a2.symm.trans b1
          simp only [Option.some.injEq, Prod.mk.injEq] at this
          exact this.2
        subst et
        obtain ⟨f', n', c1, c2, c3, c4, c5, c6, c7⟩ := Rs_n a5
        have en : n' = n := (nI_eq (by omega) (by omega)).mp (c5.symm.trans (by rw [b2]; exact f3))
        subst en
        obtain ⟨z2, t2, d1, d2, d3, d4, d5, d6, d7⟩ := Rs_enterWith (n := n') (w := w) (a := nI w) (v := v) a5 c4 hn rfl hw (by rw [b3 11 (by decide) (by decide)]; simp [stA, upd]) (by rw [b3 13 (by decide) (by decide)]; simp [stA, upd])
        obtain ⟨z', t', k1, k2, k3, k4⟩ := A_leave (j := j) d3 (by omega)
        refine ⟨1, z', t', Or.inr rfl, ?_, ?_, k3, by rw [k4.2.2.1, d6 5 (by decide), b2]; rfl, fun h => absurd h (by decide)⟩
        · simp (decide := true) only [x_AddressStream_store_29, hfull, obn_s, if_pos hn, if_true, gin_n (show j < 24 by omega) (by decide : 24 < 2 ^ 31), cl_n (show j < 2 ^ 31 by omega), e1, isa, if_pos own, g2, if_neg (nI_nle (show 0 < m by omega) (by omega)), w1, a1, d1, x_AddressStream_store_29_116, k1, gib_1]
        · simp only [m_store, f3, if_neg ne6, gin_n (show j < 24 by omega) (by decide : 24 < 2 ^ 31), cl_n (show j < 2 ^ 31 by omega), gin_r hair, gin_r w3, w2, gin_n hn (by decide : 6 < 2 ^ 31), cl_n (show n' < 2 ^ 31 by omega), bnd_s, hac, if_pos own]
          have e10 : ∀ g : Nat → Int32, (stA t 11 g).2 10 (1 : Int32).toNatClampNeg = nI m := fun g => g3
          have e6 : ∀ g : Nat → Int32, (stA t 11 g).1 6 = nI n' := fun g => f3
          simp only [e10, e6, if_neg (nI_nle (show 0 < m by omega) (by omega)), gin_r (show inR (1 : Int32) 5 = true by decide), m_store_74, m_store_79, gin_n hn (by decide : 6 < 2 ^ 31), cl_n (show n' < 2 ^ 31 by omega), gib_1, bnd_s, own, if_true]
          have e10' : ∀ g g' : Nat → Int32, (stA (stA t 11 g) 13 g').2 10 (1 : Int32).toNatClampNeg = nI m := fun g g' => g3
          have e6' : ∀ g g' : Nat → Int32, (stA (stA t 11 g) 13 g').1 6 = nI n' := fun g g' => f3
          simp only [e10', e6', if_neg (nI_nle (show 0 < m by omega) (by omega))]
          rw [show (stA t 11 (upd (t.2 11) n' (nI w))).2 13 = t.2 13 from rfl, a2]
          simp only [obn_s]
          rw [m_store_124_s hn (by rw [b2]; exact f3), d2]
          simp only [obn_s, k2]
    · -- a value of its own
      obtain ⟨z2, t2, d1, d2, d3, d4, d5, d6, d7⟩ := Rs_enterWith (n := n) (w := w) (a := nI w) (v := z.2 20 ia) (hp 1) f2 hn rfl hw (by simp [stA, upd]) (by simp [stA, upd])
      obtain ⟨z', t', k1, k2, k3, k4⟩ := A_leave (j := j) d3 (by omega)
      refine ⟨1, z', t', Or.inr rfl, ?_, ?_, k3, by rw [k4.2.2.1, d6 5 (by decide)]; rfl, fun h => absurd h (by decide)⟩
      · simp (decide := true) only [x_AddressStream_store_29, hfull, obn_s, if_pos hn, if_true, gin_n (show j < 24 by omega) (by decide : 24 < 2 ^ 31), cl_n (show j < 2 ^ 31 by omega), e1, isa, if_neg own, if_false, w1, gin_r hair, hac, d1, x_AddressStream_store_29_116, k1, gib_1]
      · have hir : inR (t.2 1 j) 16 = true := by rw [hae]; exact inR_n (by omega) (by decide)
        rw [m_store_own (by omega) hn f3 hair hir hac w2 w3 own, m_store_79_own (t := stA t 11 (upd (t.2 11) n (nI w))) (by omega) hn f3 hir hac own]
        rw [show (stA t 11 (upd (t.2 11) n (nI w))).2 13 = t.2 13 from rfl, show (stA t 11 (upd (t.2 11) n (nI w))).2 5 ia = z.2 20 ia from hA20.symm]
        rw [m_store_124_s (t := stA (stA t 11 (upd (t.2 11) n (nI w))) 13 (upd (t.2 13) n 1)) hn f3, d2]
        simp only [obn_s, k2]
  · have en : n = 6 := by omega
    subst en
    refine ⟨0, z, t, Or.inl rfl, ?_, ?_, h, rfl, fun _ => rfl⟩
    · simp (decide := true) only [x_AddressStream_store_29, hfull, obn_s, if_false, gib_0]
    · simp only [m_store, f3, gib_0]
      rw [if_pos (by decide)]
