-- a state of a side: its int fields (booleans as 0 and 1) by number, its arrays by number
abbrev ST : Type := (Nat → Int32) × (Nat → Nat → Int32)
abbrev OR : Type := Option (Int32 × ST)
def stI (s : ST) (k : Nat) (v : Int32) : ST := (upd s.1 k v, s.2)
def stA (s : ST) (k : Nat) (g : Nat → Int32) : ST := (s.1, fun j => if j = k then g else s.2 j)
-- the words of a pure text: a new state, a call, a place in range, a boolean
def bnd (x : ST) (f : ST → OR) : OR := f x
def obn (x : OR) (f : Int32 → ST → OR) : OR := match x with
  | none => none
  | some q => f q.1 q.2
def inR (i : Int32) (n : Nat) : Bool := decide (0 ≤ i.toInt ∧ i.toInt < n)
def gin (i : Int32) (n : Nat) (x : OR) : OR := if inR i n = true then x else none
def isB (v : Int32) : Bool := v == 0 || v == 1
def gib (v : Int32) (x : OR) : OR := if isB v = true then x else none
theorem bnd_e {x : ST} {f : ST → OR} {R : Int32 × ST} (h : bnd x f = some R) : ∃ z, z = x ∧ f z = some R := ⟨x, rfl, h⟩
theorem obn_e {x : OR} {f : Int32 → ST → OR} {R : Int32 × ST} (h : obn x f = some R) : ∃ r z, x = some (r, z) ∧ f r z = some R := by
  cases x with
  | none => cases h
  | some q => exact ⟨q.1, q.2, rfl, h⟩
theorem gin_e {i : Int32} {n : Nat} {x : OR} {R : Int32 × ST} (h : gin i n x = some R) : vp_in i n ∧ x = some R := by
  unfold gin at h
  by_cases hi : inR i n = true
  · rw [if_pos hi] at h
    exact ⟨vp_in_iff.mpr (of_decide_eq_true hi), h⟩
  · rw [if_neg hi] at h
    cases h
theorem gib_e {v : Int32} {x : OR} {R : Int32 × ST} (h : gib v x = some R) : (v = 0 ∨ v = 1) ∧ x = some R := by
  unfold gib at h
  by_cases hi : isB v = true
  · rw [if_pos hi] at h
    refine ⟨?_, h⟩
    unfold isB at hi
    simp only [Bool.or_eq_true, beq_iff_eq] at hi
    exact hi
  · rw [if_neg hi] at h
    cases h
theorem if_t {c : Prop} {i : Decidable c} {a b R : OR} (hc : c) (h : @ite OR c i a b = R) : a = R := by
  rw [if_pos hc] at h
  exact h
theorem if_f {c : Prop} {i : Decidable c} {a b R : OR} (hc : ¬ c) (h : @ite OR c i a b = R) : b = R := by
  rw [if_neg hc] at h
  exact h
theorem nB {v : Int32} (h : v = 0 ∨ v = 1) : narrow .boolean (.int v) = .int v := by
  rcases h with rfl | rfl <;> rfl
theorem fB {v : Int32} (h : v = 0 ∨ v = 1) : fits .boolean (.int v) = true := by
  rcases h with rfl | rfl <;> rfl
theorem vB {v : Int32} (h : v = 0 ∨ v = 1) : vp_nar .boolean v = v := by
  rcases h with rfl | rfl <;> rfl
-- contracts over a world that is a function of the state; no method here makes a cell
def qB (D : va_G) (cl : List vw_C) (w : ST → va_W) (A : Nat → Prop) (u : ST) (t : State) : Prop := va_P D cl (w u) t.heap ∧ va_D A (w u)
def qQi (D : va_G) (cl : List vw_C) (w : ST → va_W) (A : Nat → Prop) (R : Int32 × ST) : Array Value → State → Outcome → State → Prop := va_Qi (fun r u => (r, u) = R) (qB D cl w A) A
def qQv (D : va_G) (cl : List vw_C) (w : ST → va_W) (A : Nat → Prop) (R : Int32 × ST) : Array Value → State → Outcome → State → Prop := va_Qv (fun u => u = R.2) (qB D cl w A) A
def qPc (KK : State → Prop) (D : va_G) (cl : List vw_C) (w : ST → va_W) (av : List Value) (s0 : ST) (sz : Nat) : Array Value → State → Prop := va_Pc av (fun U => U.heap.size = sz ∧ va_P D cl (w s0) U.heap ∧ KK U ∧ va_D (fun _ => True) (w s0))
abbrev qR (fr lo : Nat) : Room := { frames := fr, cells := 0, slots := 0, locals := lo }
def qMi (l : Launch) (y : MethodName) (ws : List Cond) (fr lo : Nat) (KK : State → Prop) (D : va_G) (cl : List vw_C) (w : ST → va_W) (av : List Value) (s0 : ST) (R : Int32 × ST) : Prop :=
  ∀ sz : Nat, Met l y ws (qR fr lo) (qPc KK D cl w av s0 sz) (qQi D cl w (va_A (w s0) sz) R) 0 0 (va_A (w s0) sz)
def qMv (l : Launch) (y : MethodName) (ws : List Cond) (fr lo : Nat) (KK : State → Prop) (D : va_G) (cl : List vw_C) (w : ST → va_W) (av : List Value) (s0 : ST) (R : Int32 × ST) : Prop :=
  ∀ sz : Nat, Met l y ws (qR fr lo) (qPc KK D cl w av s0 sz) (qQv D cl w (va_A (w s0) sz) R) 0 0 (va_A (w s0) sz)
/-- what holds of the tables: it stays in a call and as the machine warms -/
def qOk (KK : State → Prop) : Prop := (∀ (a : Array Value) (U : State) (g : JFrame) (mk : MethodId), KK U → KK (U.calling g mk a)) ∧ ∀ s U : State, s.WarmedH U.vm → KK s → KK U
abbrev qWi (p : Program) (l : Launch) (e : Env) (ws : List Cond) (fr lo : Nat) (s : State) (m : MethodId) (av : List Value) (below : List Frame) (meth : Method) (c : Code) (D : va_G) (cl : List vw_C) (w : ST → va_W) (A : Nat → Prop) (R : Int32 × ST) (H : Heap) (locs : List Loc) (g : JFrame) : Prop :=
  W p l e (headSpec ws (qR fr lo)).room s m av.toArray below meth c H locs 0 0 (MQ below (qQi D cl w A R) av.toArray s 0 0 A) g
abbrev qWv (p : Program) (l : Launch) (e : Env) (ws : List Cond) (fr lo : Nat) (s : State) (m : MethodId) (av : List Value) (below : List Frame) (meth : Method) (c : Code) (D : va_G) (cl : List vw_C) (w : ST → va_W) (A : Nat → Prop) (R : Int32 × ST) (H : Heap) (locs : List Loc) (g : JFrame) : Prop :=
  W p l e (headSpec ws (qR fr lo)).room s m av.toArray below meth c H locs 0 0 (MQ below (qQv D cl w A R) av.toArray s 0 0 A) g
section QROWS
variable {p : Program} {l : Launch} {e : Env} {Rm : Room} {s : State} {m : MethodId} {args : Array Value} {below : List Frame} {meth : Method} {c : Code} {H : Heap} {locs : List Loc} {Q : State → Prop}
variable {cc : ByteArray} {pc : Nat} {ls : Array Slot} {rest st0 : List Value} {D : va_G} {cl : List vw_C} {A : Nat → Prop} {w : ST → va_W} {s0 s1 : ST} {R : Int32 × ST} {KK : State → Prop} {v : Int32}
theorem q_iret (hx : p.tables.exec = Jvm.exec) (hb : c.code = cc) (hr : meth.sig.returnType = some .int) (hlocks : meth.locks = false) (h : some (v, s0) = some R) (hP : va_P D cl (w s0) H) (hD : va_D A (w s0)) (hS : va_S A s.heap H locs) (hdg : decode cc pc = .ok (.ireturn, 1)) :
    W p l e Rm s m args below meth c H locs 0 0 (MQ below (qQi D cl w A R) args s 0 0 A) (F0 m pc ls [.int v]) :=
  W.iret hx hb hr (fun t ht _ => ⟨⟨v, s0, rfl, Option.some.inj h, by rw [ht]; exact hP, hD⟩, hS.F ht⟩) hS.2.2 hdg hlocks
theorem q_zret (hx : p.tables.exec = Jvm.exec) (hb : c.code = cc) (hr : meth.sig.returnType = some .boolean) (hlocks : meth.locks = false) (h0 : gib v (some (v, s0)) = some R) (hP : va_P D cl (w s0) H) (hD : va_D A (w s0)) (hS : va_S A s.heap H locs) (hdg : decode cc pc = .ok (.ireturn, 1)) :
    W p l e Rm s m args below meth c H locs 0 0 (MQ below (qQi D cl w A R) args s 0 0 A) (F0 m pc ls [.int v]) := by
  obtain ⟨hv, h⟩ := gib_e h0
  exact W.zret hx hb hr (nB hv) (fun t ht _ => ⟨⟨v, s0, rfl, Option.some.inj h, by rw [ht]; exact hP, hD⟩, hS.F ht⟩) hS.2.2 hdg hlocks
theorem q_vret (hx : p.tables.exec = Jvm.exec) (hb : c.code = cc) (hr : meth.sig.returnType = none) (hlocks : meth.locks = false) (h : some (v, s0) = some R) (hP : va_P D cl (w s0) H) (hD : va_D A (w s0)) (hS : va_S A s.heap H locs) (hdg : decode cc pc = .ok (.return_, 1)) :
    W p l e Rm s m args below meth c H locs 0 0 (MQ below (qQv D cl w A R) args s 0 0 A) (F0 m pc ls []) :=
  W.vret hx hb hr (fun t ht _ => ⟨⟨s0, rfl, by rw [← Option.some.inj h], by rw [ht]; exact hP, hD⟩, hS.F ht⟩) hS.2.2 hdg hlocks
theorem q_free (hD : va_D A (w s0)) (hS : va_S A s.heap H locs) (hA : ∀ q, s.heap.size ≤ q → A q) : ∀ q, va_A (w s0) H.size q → A q := by
  intro q h
  rcases h with ⟨k, e, h⟩ | h
  · exact hD.2 k _ h
  · exact hA q (Nat.le_trans hS.1 h)
/-- behind a call that answers an int -/
theorem q_goi {a : Array Value} {r1 : Int32} {z1 : ST} (hr : va_Run p l e Rm s m args below meth c H locs 0 0 0 0 (F0 m pc ls st0) rest (qQi D cl w (va_A (w s0) H.size) (r1, z1) a) (va_A (w s0) H.size)) (hD : va_D A (w s0)) (hS : va_S A s.heap H locs) (hA : ∀ q, s.heap.size ≤ q → A q)
    (kk : ∀ (H1 : Heap) (locs1 : List Loc), va_P D cl (w z1) H1 → va_D A (w z1) → va_S A s.heap H1 locs1 → W p l e Rm s m args below meth c H1 locs1 0 0 Q (F0 m (pc + 3) ls (.int r1 :: rest))) : W p l e Rm s m args below meth c H locs 0 0 Q (F0 m pc ls st0) := by
  have hF := q_free (w := w) hD hS hA
  refine va_calli hr hS (fun q _ h => hF q h) hF (fun r u t H1 locs1 ht _ hp hB _ _ hS1 => ?_)
  obtain ⟨hP1, hD1⟩ := hB
  cases hp
  rw [ht] at hP1
  exact kk H1 locs1 hP1 (hD1.weaken (fun k q _ h => hF q.1 h)) hS1
/-- behind a call that answers nothing -/
theorem q_gov {a : Array Value} {r1 : Int32} {z1 : ST} (hr : va_Run p l e Rm s m args below meth c H locs 0 0 0 0 (F0 m pc ls st0) rest (qQv D cl w (va_A (w s0) H.size) (r1, z1) a) (va_A (w s0) H.size)) (hD : va_D A (w s0)) (hS : va_S A s.heap H locs) (hA : ∀ q, s.heap.size ≤ q → A q)
    (kk : ∀ (H1 : Heap) (locs1 : List Loc), va_P D cl (w z1) H1 → va_D A (w z1) → va_S A s.heap H1 locs1 → W p l e Rm s m args below meth c H1 locs1 0 0 Q (F0 m (pc + 3) ls rest)) : W p l e Rm s m args below meth c H locs 0 0 Q (F0 m pc ls st0) := by
  have hF := q_free (w := w) hD hS hA
  refine va_callv hr hS (fun q _ h => hF q h) hF (fun u t H1 locs1 ht _ hp hB _ _ hS1 => ?_)
  obtain ⟨hP1, hD1⟩ := hB
  cases hp
  rw [ht] at hP1
  exact kk H1 locs1 hP1 (hD1.weaken (fun k q _ h => hF q.1 h)) hS1
theorem q_preV {C : String} {b : Nat} {As : List Value} (hok : qOk KK) (hK : KK s) (hP : va_P D cl (w s0) H) (hD : va_D A (w s0)) (hrec : ∃ cell : Cell, H[b]? = some cell ∧ cell.vm.isStatics = false ∧ s.vm.findClass C = some cell.cls) : PreV s H C b (qPc KK D cl w (.ref b :: As) s0 H.size) As :=
  ⟨fun a U g mk q => ⟨q.1, q.2.1, q.2.2.1, hok.1 a U g mk q.2.2.2.1, q.2.2.2.2⟩, hrec, fun U hU hW => ⟨rfl, by rw [hU], by rw [hU]; exact hP, hok.2 s U hW hK, hD.weaken (fun _ _ _ _ => trivial)⟩⟩
theorem q_preS {As : List Value} (hok : qOk KK) (hK : KK s) (hP : va_P D cl (w s0) H) (hD : va_D A (w s0)) : PreS s H (qPc KK D cl w As s0 H.size) As :=
  ⟨fun a U g mk q => ⟨q.1, q.2.1, q.2.2.1, hok.1 a U g mk q.2.2.2.1, q.2.2.2.2⟩, fun U hU hW => ⟨rfl, by rw [hU], by rw [hU]; exact hP, hok.2 s U hW hK, hD.weaken (fun _ _ _ _ => trivial)⟩⟩
end QROWS
