/-! THE CLAIM OUT OF ONE WALK OF THE LAW'S BODY. Your part is whole_start (and what it stands on); all else here is the same for every law, but numbers. -/
def R_law : String := "SlippedStreamsLaw"
def lw_P (b : Addr) (xs : List Int32) (args : Array Value) (s : State) : Prop := args = #[.ref b] ∧ s.IntsAt b xs ∧ xs.length ≤ 2560 ∧ (Jvm.Cond.and given_1 narrow_1).before args s = true
def lw_Q (_ : Array Value) (s : State) (o : Outcome) (t : State) : Prop := o = .returned (some (.int 1)) ∧ Framed s o t [] 600000 7302250
def lw_Z (below : List Frame) (a : Array Value) (s : State) : State → Prop := fun t => ∃ o, t.status = .running ∧ Ended t below o ∧ lw_Q a s o t
/-- the law's own end, with 1 on the stack, nothing written that was there before, its room as the claim has it -/
theorem lw_ret {p : Program} {l : Launch} {e : Env} {s : State} {m : MethodId} {below : List Frame} {meth : Method} {c : Code} {b : Nat} (hx : p.tables.exec = Jvm.exec) (hb : c.code = code) (hr : meth.sig.returnType = ret) (hlocks : meth.locks = false) {pc : Nat} {H : Heap} {ls : Array Slot} (hdg : decode code pc = .ok (.ireturn, 1)) : W p l e room_1 s m #[Value.ref b] below meth c H [] 600000 7302250 (lw_Z below #[Value.ref b] s) (F0 m pc ls [.int 1]) := by
  intro T hT X
  obtain ⟨fs, hret, hrun, hended, hW, hframe⟩ := X.leave (v := some (.int 1)) (hlocks := hlocks) (fun h => by rw [hr] at h; cases h)
  have hmeth' : T.vm.method? m = some meth := X.method'
  refine ⟨T.setFrames fs, ?_, .returned (some (.int 1)), hrun, hended, rfl, ⟨_, rfl⟩, hW, hframe⟩
  jvm_step X.here [X.here.top, hx, hb, hdg, hmeth', hr, ret, narrow_b1]
  (try refine ⟨rfl, ?_⟩); (try refine ⟨rfl, ?_⟩)
  first | (intro acts; rw [hret _ acts rfl rfl rfl]) | rw [hret _ _ rfl rfl rfl]
  exact Steps.refl _
/-- what holds at the law's entry: the machine, the code, the tables' words (any of lw_tbl by 'hts w (by decide +kernel)'), the script of L ints xs at the cell b, what the Statement gives of the start (any of its parts by flat_of_before) -/
def lw_At (p : Program) (s : State) (m : MethodId) (meth : Method) (c : Code) (b L : Nat) (xs : Nat → Int32) : Prop :=
  p.tables.exec = Jvm.exec ∧ c.code = code ∧ meth.sig.returnType = ret ∧ c.maxLocals = 4 ∧ s.vm.findClass R_law = some m.cls ∧ (∀ w ∈ lw_tbl, w.before #[Value.ref b] s = true) ∧ va_X b L xs s s.heap ∧ b < s.heap.size ∧ meth.locks = false ∧ (Jvm.Cond.and given_1 narrow_1).before #[Value.ref b] s = true
-- the law's pure text: an answer alone
abbrev OL : Type := Option Int32
def oln (x : OR) (f : Int32 → ST → OL) : OL := match x with
  | none => none
  | some q => f q.1 q.2
def gil (i : Int32) (n : Nat) (x : OL) : OL := if inR i n = true then x else none
theorem oln_e {x : OR} {f : Int32 → ST → OL} {R : Int32} (h : oln x f = some R) : ∃ r z, x = some (r, z) ∧ f r z = some R := by
  cases x with
  | none => cases h
  | some q => exact ⟨q.1, q.2, rfl, h⟩
theorem gil_e {i : Int32} {n : Nat} {x : OL} {R : Int32} (h : gil i n x = some R) : vp_in i n ∧ x = some R := by
  unfold gil at h
  by_cases hi : inR i n = true
  · rw [if_pos hi] at h
    exact ⟨vp_in_iff.mpr (of_decide_eq_true hi), h⟩
  · rw [if_neg hi] at h
    cases h
theorem il_t {c : Prop} {i : Decidable c} {a b R : OL} (hc : c) (h : @ite OL c i a b = R) : a = R := by
  rw [if_pos hc] at h
  exact h
theorem il_f {c : Prop} {i : Decidable c} {a b R : OL} (hc : ¬ c) (h : @ite OL c i a b = R) : b = R := by
  rw [if_neg hc] at h
  exact h
/-- two worlds that share no cell -/
def q_ap (a b : va_W) : Prop := ∀ (i j : Nat) (p q : Nat × va_E), a[i]? = some p → b[j]? = some q → p.1 ≠ q.1
theorem q_ap.symm {a b : va_W} (h : q_ap a b) : q_ap b a := fun i j p q hp hq e => h j i q p hq hp e.symm
section QLAW
variable {p : Program} {l : Launch} {e : Env} {Rm : Room} {s : State} {m : MethodId} {args : Array Value} {below : List Frame} {meth : Method} {c : Code} {H : Heap} {locs : List Loc} {Q : State → Prop} {ce sl : Nat}
variable {cc : ByteArray} {pc : Nat} {ls : Array Slot} {rest st0 : List Value} {D : va_G} {cl : List vw_C} {A : Nat → Prop} {w : ST → va_W} {s0 : ST} {o : va_W} {KK : State → Prop} {v : Int32}
theorem q_keep {a1 : va_W} {H1 : Heap} (hPo : va_P D cl o H) (hap : q_ap (w s0) o) (hk : ∀ q : Nat, q < H.size → ¬ va_A (w s0) H.size q → H1[q]? = H[q]?) (hD1 : va_D (va_A (w s0) H.size) a1) : va_P D cl o H1 ∧ q_ap a1 o := by
  have key : ∀ (k : Nat) (q : Nat × va_E), o[k]? = some q → q.1 < H.size ∧ ¬ va_A (w s0) H.size q.1 := by
    intro k q hq
    have hl := (hPo k q hq).lt
    refine ⟨hl, fun h => ?_⟩
    rcases h with ⟨k2, e2, h⟩ | h
    · exact hap k2 k (q.1, e2) q h hq rfl
    · omega
  refine ⟨fun k q hq => (hPo k q hq).kept (hk q.1 (key k q hq).1 (key k q hq).2), fun i j x y hx hy hxy => ?_⟩
  exact (key j y hy).2 (by rw [← hxy]; exact hD1.2 i x hx)
theorem q2_i {a : Array Value} {r1 : Int32} {z1 : ST} (hr : va_Run p l e Rm s m args below meth c H locs ce sl 0 0 (F0 m pc ls st0) rest (qQi D cl w (va_A (w s0) H.size) (r1, z1) a) (va_A (w s0) H.size)) (hD : va_D A (w s0)) (hPo : va_P D cl o H) (hap : q_ap (w s0) o) (hS : va_S A s.heap H locs) (hA : ∀ q, s.heap.size ≤ q → A q)
    (kk : ∀ (H1 : Heap) (locs1 : List Loc), va_P D cl (w z1) H1 → va_D A (w z1) → va_P D cl o H1 → q_ap (w z1) o → va_S A s.heap H1 locs1 → W p l e Rm s m args below meth c H1 locs1 ce sl Q (F0 m (pc + 3) ls (.int r1 :: rest))) : W p l e Rm s m args below meth c H locs ce sl Q (F0 m pc ls st0) := by
  have hF := q_free (w := w) hD hS hA
  refine va_calli hr hS (fun q _ h => hF q h) hF (fun r u t H1 locs1 ht _ hp hB _ hk hS1 => ?_)
  obtain ⟨hP1, hD1⟩ := hB
  cases hp
  rw [ht] at hP1
  obtain ⟨g1, g2⟩ := q_keep (w := w) hPo hap hk hD1
  exact kk H1 locs1 hP1 (hD1.weaken (fun k q _ h => hF q.1 h)) g1 g2 hS1
theorem q2_v {a : Array Value} {r1 : Int32} {z1 : ST} (hr : va_Run p l e Rm s m args below meth c H locs ce sl 0 0 (F0 m pc ls st0) rest (qQv D cl w (va_A (w s0) H.size) (r1, z1) a) (va_A (w s0) H.size)) (hD : va_D A (w s0)) (hPo : va_P D cl o H) (hap : q_ap (w s0) o) (hS : va_S A s.heap H locs) (hA : ∀ q, s.heap.size ≤ q → A q)
    (kk : ∀ (H1 : Heap) (locs1 : List Loc), va_P D cl (w z1) H1 → va_D A (w z1) → va_P D cl o H1 → q_ap (w z1) o → va_S A s.heap H1 locs1 → W p l e Rm s m args below meth c H1 locs1 ce sl Q (F0 m (pc + 3) ls rest)) : W p l e Rm s m args below meth c H locs ce sl Q (F0 m pc ls st0) := by
  have hF := q_free (w := w) hD hS hA
  refine va_callv hr hS (fun q _ h => hF q h) hF (fun u t H1 locs1 ht _ hp hB _ hk hS1 => ?_)
  obtain ⟨hP1, hD1⟩ := hB
  cases hp
  rw [ht] at hP1
  obtain ⟨g1, g2⟩ := q_keep (w := w) hPo hap hk hD1
  exact kk H1 locs1 hP1 (hD1.weaken (fun k q _ h => hF q.1 h)) g1 g2 hS1
end QLAW
theorem k_383 : Cond.methodLink "SlippedStreamsLaw" 13 ⟨"SlippedStreams", "add", "(IIII)I"⟩ ∈ q_big := q_mem 383 (by decide +kernel) rfl
theorem k_384 : Cond.instanceMethod ⟨"SlippedStreams", "add", "(IIII)I"⟩ ∈ q_big := q_mem 384 (by decide +kernel) rfl
theorem k_385 : Cond.selects "SlippedStreams" ⟨"SlippedStreams", "add", "(IIII)I"⟩ ⟨"SlippedStreams", "add", "(IIII)I"⟩ ∈ q_big := q_mem 385 (by decide +kernel) rfl
set_option maxRecDepth 100000 in
theorem k_386 : Cond.code ⟨"SlippedStreams", "add", "(IIII)I"⟩ prog_1_method_2_code 6 (some .int) ∈ q_big := q_mem 386 (rfl) rfl
theorem k_486 : Cond.methodLink "SlippedStreamsLaw" 18 ⟨"SlippedStreams", "fill", "(II)V"⟩ ∈ q_big := q_mem 486 (by decide +kernel) rfl
theorem k_487 : Cond.instanceMethod ⟨"SlippedStreams", "fill", "(II)V"⟩ ∈ q_big := q_mem 487 (by decide +kernel) rfl
theorem k_488 : Cond.selects "SlippedStreams" ⟨"SlippedStreams", "fill", "(II)V"⟩ ⟨"SlippedStreams", "fill", "(II)V"⟩ ∈ q_big := q_mem 488 (by decide +kernel) rfl
set_option maxRecDepth 100000 in
theorem k_489 : Cond.code ⟨"SlippedStreams", "fill", "(II)V"⟩ prog_1_method_3_code 4 none ∈ q_big := q_mem 489 (rfl) rfl
theorem k_490 : Cond.methodLink "SlippedStreamsLaw" 23 ⟨"SlippedStreams", "clear", "()I"⟩ ∈ q_big := q_mem 490 (by decide +kernel) rfl
theorem k_491 : Cond.instanceMethod ⟨"SlippedStreams", "clear", "()I"⟩ ∈ q_big := q_mem 491 (by decide +kernel) rfl
theorem k_492 : Cond.selects "SlippedStreams" ⟨"SlippedStreams", "clear", "()I"⟩ ⟨"SlippedStreams", "clear", "()I"⟩ ∈ q_big := q_mem 492 (by decide +kernel) rfl
set_option maxRecDepth 100000 in
theorem k_493 : Cond.code ⟨"SlippedStreams", "clear", "()I"⟩ prog_1_method_4_code 2 (some .int) ∈ q_big := q_mem 493 (rfl) rfl
theorem k_498 : Cond.methodLink "SlippedStreamsLaw" 28 ⟨"SlippedStreams", "reset", "()V"⟩ ∈ q_big := q_mem 498 (by decide +kernel) rfl
theorem k_499 : Cond.instanceMethod ⟨"SlippedStreams", "reset", "()V"⟩ ∈ q_big := q_mem 499 (by decide +kernel) rfl
theorem k_500 : Cond.selects "SlippedStreams" ⟨"SlippedStreams", "reset", "()V"⟩ ⟨"SlippedStreams", "reset", "()V"⟩ ∈ q_big := q_mem 500 (by decide +kernel) rfl
set_option maxRecDepth 100000 in
theorem k_501 : Cond.code ⟨"SlippedStreams", "reset", "()V"⟩ prog_1_method_5_code 1 none ∈ q_big := q_mem 501 (rfl) rfl
theorem k_502 : Cond.methodLink "SlippedStreamsLaw" 32 ⟨"SlippedStreams", "streamOf", "(I)I"⟩ ∈ q_big := q_mem 502 (by decide +kernel) rfl
theorem k_503 : Cond.instanceMethod ⟨"SlippedStreams", "streamOf", "(I)I"⟩ ∈ q_big := q_mem 503 (by decide +kernel) rfl
theorem k_504 : Cond.selects "SlippedStreams" ⟨"SlippedStreams", "streamOf", "(I)I"⟩ ⟨"SlippedStreams", "streamOf", "(I)I"⟩ ∈ q_big := q_mem 504 (by decide +kernel) rfl
set_option maxRecDepth 100000 in
theorem k_505 : Cond.code ⟨"SlippedStreams", "streamOf", "(I)I"⟩ prog_1_method_6_code 2 (some .int) ∈ q_big := q_mem 505 (rfl) rfl
theorem k_506 : Cond.methodLink "SlippedStreamsLaw" 37 ⟨"SlippedStreams", "addressRegisters", "()I"⟩ ∈ q_big := q_mem 506 (by decide +kernel) rfl
theorem k_507 : Cond.instanceMethod ⟨"SlippedStreams", "addressRegisters", "()I"⟩ ∈ q_big := q_mem 507 (by decide +kernel) rfl
theorem k_508 : Cond.selects "SlippedStreams" ⟨"SlippedStreams", "addressRegisters", "()I"⟩ ⟨"SlippedStreams", "addressRegisters", "()I"⟩ ∈ q_big := q_mem 508 (by decide +kernel) rfl
set_option maxRecDepth 100000 in
theorem k_509 : Cond.code ⟨"SlippedStreams", "addressRegisters", "()I"⟩ prog_1_method_7_code 1 (some .int) ∈ q_big := q_mem 509 (rfl) rfl
theorem k_516 : Cond.methodLink "SlippedStreamsLaw" 41 ⟨"SlippedStreams", "address", "(I)I"⟩ ∈ q_big := q_mem 516 (by decide +kernel) rfl
theorem k_517 : Cond.instanceMethod ⟨"SlippedStreams", "address", "(I)I"⟩ ∈ q_big := q_mem 517 (by decide +kernel) rfl
theorem k_518 : Cond.selects "SlippedStreams" ⟨"SlippedStreams", "address", "(I)I"⟩ ⟨"SlippedStreams", "address", "(I)I"⟩ ∈ q_big := q_mem 518 (by decide +kernel) rfl
set_option maxRecDepth 100000 in
theorem k_519 : Cond.code ⟨"SlippedStreams", "address", "(I)I"⟩ prog_1_method_8_code 3 (some .int) ∈ q_big := q_mem 519 (rfl) rfl
theorem k_734 : Cond.methodLink "SlippedStreamsLaw" 45 ⟨"SlippedStreams", "value", "(I)I"⟩ ∈ q_big := q_mem 734 (by decide +kernel) rfl
theorem k_735 : Cond.instanceMethod ⟨"SlippedStreams", "value", "(I)I"⟩ ∈ q_big := q_mem 735 (by decide +kernel) rfl
theorem k_736 : Cond.selects "SlippedStreams" ⟨"SlippedStreams", "value", "(I)I"⟩ ⟨"SlippedStreams", "value", "(I)I"⟩ ∈ q_big := q_mem 736 (by decide +kernel) rfl
set_option maxRecDepth 100000 in
theorem k_737 : Cond.code ⟨"SlippedStreams", "value", "(I)I"⟩ prog_1_method_9_code 2 (some .int) ∈ q_big := q_mem 737 (rfl) rfl
theorem k_741 : Cond.methodLink "SlippedStreamsLaw" 49 ⟨"SlippedStreams", "both", "(I)I"⟩ ∈ q_big := q_mem 741 (by decide +kernel) rfl
theorem k_742 : Cond.instanceMethod ⟨"SlippedStreams", "both", "(I)I"⟩ ∈ q_big := q_mem 742 (by decide +kernel) rfl
theorem k_743 : Cond.selects "SlippedStreams" ⟨"SlippedStreams", "both", "(I)I"⟩ ⟨"SlippedStreams", "both", "(I)I"⟩ ∈ q_big := q_mem 743 (by decide +kernel) rfl
set_option maxRecDepth 100000 in
theorem k_744 : Cond.code ⟨"SlippedStreams", "both", "(I)I"⟩ prog_1_method_10_code 4 (some .int) ∈ q_big := q_mem 744 (rfl) rfl
theorem k_747 : Cond.methodLink "SlippedStreamsLaw" 53 ⟨"SlippedStreams", "place", "(I)I"⟩ ∈ q_big := q_mem 747 (by decide +kernel) rfl
theorem k_748 : Cond.instanceMethod ⟨"SlippedStreams", "place", "(I)I"⟩ ∈ q_big := q_mem 748 (by decide +kernel) rfl
theorem k_749 : Cond.selects "SlippedStreams" ⟨"SlippedStreams", "place", "(I)I"⟩ ⟨"SlippedStreams", "place", "(I)I"⟩ ∈ q_big := q_mem 749 (by decide +kernel) rfl
set_option maxRecDepth 100000 in
theorem k_750 : Cond.code ⟨"SlippedStreams", "place", "(I)I"⟩ prog_1_method_11_code 2 (some .int) ∈ q_big := q_mem 750 (rfl) rfl
theorem k_766 : Cond.methodLink "SlippedStreamsLaw" 57 ⟨"SlippedStreams", "slip", "()I"⟩ ∈ q_big := q_mem 766 (by decide +kernel) rfl
theorem k_767 : Cond.instanceMethod ⟨"SlippedStreams", "slip", "()I"⟩ ∈ q_big := q_mem 767 (by decide +kernel) rfl
theorem k_768 : Cond.selects "SlippedStreams" ⟨"SlippedStreams", "slip", "()I"⟩ ⟨"SlippedStreams", "slip", "()I"⟩ ∈ q_big := q_mem 768 (by decide +kernel) rfl
set_option maxRecDepth 100000 in
theorem k_769 : Cond.code ⟨"SlippedStreams", "slip", "()I"⟩ prog_1_method_12_code 1 (some .int) ∈ q_big := q_mem 769 (rfl) rfl
theorem k_770 : Cond.methodLink "SlippedStreamsLaw" 61 ⟨"SlippedStreams", "queue", "(I)I"⟩ ∈ q_big := q_mem 770 (by decide +kernel) rfl
theorem k_771 : Cond.instanceMethod ⟨"SlippedStreams", "queue", "(I)I"⟩ ∈ q_big := q_mem 771 (by decide +kernel) rfl
theorem k_772 : Cond.selects "SlippedStreams" ⟨"SlippedStreams", "queue", "(I)I"⟩ ⟨"SlippedStreams", "queue", "(I)I"⟩ ∈ q_big := q_mem 772 (by decide +kernel) rfl
set_option maxRecDepth 100000 in
theorem k_773 : Cond.code ⟨"SlippedStreams", "queue", "(I)I"⟩ prog_1_method_13_code 2 (some .int) ∈ q_big := q_mem 773 (rfl) rfl
theorem k_774 : Cond.methodLink "SlippedStreamsLaw" 65 ⟨"SlippedStreams", "register", "(IZ)I"⟩ ∈ q_big := q_mem 774 (by decide +kernel) rfl
theorem k_775 : Cond.instanceMethod ⟨"SlippedStreams", "register", "(IZ)I"⟩ ∈ q_big := q_mem 775 (by decide +kernel) rfl
theorem k_776 : Cond.selects "SlippedStreams" ⟨"SlippedStreams", "register", "(IZ)I"⟩ ⟨"SlippedStreams", "register", "(IZ)I"⟩ ∈ q_big := q_mem 776 (by decide +kernel) rfl
set_option maxRecDepth 100000 in
theorem k_777 : Cond.code ⟨"SlippedStreams", "register", "(IZ)I"⟩ prog_1_method_14_code 3 (some .int) ∈ q_big := q_mem 777 (rfl) rfl
theorem k_780 : Cond.methodLink "SlippedStreamsLaw" 70 ⟨"SlippedStreams", "peek", "(IZ)I"⟩ ∈ q_big := q_mem 780 (by decide +kernel) rfl
theorem k_781 : Cond.instanceMethod ⟨"SlippedStreams", "peek", "(IZ)I"⟩ ∈ q_big := q_mem 781 (by decide +kernel) rfl
theorem k_782 : Cond.selects "SlippedStreams" ⟨"SlippedStreams", "peek", "(IZ)I"⟩ ⟨"SlippedStreams", "peek", "(IZ)I"⟩ ∈ q_big := q_mem 782 (by decide +kernel) rfl
set_option maxRecDepth 100000 in
theorem k_783 : Cond.code ⟨"SlippedStreams", "peek", "(IZ)I"⟩ prog_1_method_15_code 4 (some .int) ∈ q_big := q_mem 783 (rfl) rfl
theorem k_784 : Cond.methodLink "SlippedStreamsLaw" 74 ⟨"SlippedStreams", "losses", "()I"⟩ ∈ q_big := q_mem 784 (by decide +kernel) rfl
theorem k_785 : Cond.instanceMethod ⟨"SlippedStreams", "losses", "()I"⟩ ∈ q_big := q_mem 785 (by decide +kernel) rfl
theorem k_786 : Cond.selects "SlippedStreams" ⟨"SlippedStreams", "losses", "()I"⟩ ⟨"SlippedStreams", "losses", "()I"⟩ ∈ q_big := q_mem 786 (by decide +kernel) rfl
set_option maxRecDepth 100000 in
theorem k_787 : Cond.code ⟨"SlippedStreams", "losses", "()I"⟩ prog_1_method_16_code 1 (some .int) ∈ q_big := q_mem 787 (rfl) rfl
theorem k_788 : Cond.methodLink "SlippedStreamsLaw" 78 ⟨"SlippedStreams", "plain", "(I)I"⟩ ∈ q_big := q_mem 788 (by decide +kernel) rfl
theorem k_789 : Cond.instanceMethod ⟨"SlippedStreams", "plain", "(I)I"⟩ ∈ q_big := q_mem 789 (by decide +kernel) rfl
theorem k_790 : Cond.selects "SlippedStreams" ⟨"SlippedStreams", "plain", "(I)I"⟩ ⟨"SlippedStreams", "plain", "(I)I"⟩ ∈ q_big := q_mem 790 (by decide +kernel) rfl
set_option maxRecDepth 100000 in
theorem k_791 : Cond.code ⟨"SlippedStreams", "plain", "(I)I"⟩ prog_1_method_17_code 2 (some .int) ∈ q_big := q_mem 791 (rfl) rfl
theorem k_795 : Cond.methodLink "SlippedStreamsLaw" 82 ⟨"SlippedStreams", "outputs", "(Z)I"⟩ ∈ q_big := q_mem 795 (by decide +kernel) rfl
theorem k_796 : Cond.instanceMethod ⟨"SlippedStreams", "outputs", "(Z)I"⟩ ∈ q_big := q_mem 796 (by decide +kernel) rfl
theorem k_797 : Cond.selects "SlippedStreams" ⟨"SlippedStreams", "outputs", "(Z)I"⟩ ⟨"SlippedStreams", "outputs", "(Z)I"⟩ ∈ q_big := q_mem 797 (by decide +kernel) rfl
set_option maxRecDepth 100000 in
theorem k_798 : Cond.code ⟨"SlippedStreams", "outputs", "(Z)I"⟩ prog_1_method_18_code 2 (some .int) ∈ q_big := q_mem 798 (rfl) rfl
theorem k_799 : Cond.methodLink "SlippedStreamsLaw" 87 ⟨"SlippedStreams", "output", "(IZ)I"⟩ ∈ q_big := q_mem 799 (by decide +kernel) rfl
theorem k_800 : Cond.instanceMethod ⟨"SlippedStreams", "output", "(IZ)I"⟩ ∈ q_big := q_mem 800 (by decide +kernel) rfl
theorem k_801 : Cond.selects "SlippedStreams" ⟨"SlippedStreams", "output", "(IZ)I"⟩ ⟨"SlippedStreams", "output", "(IZ)I"⟩ ∈ q_big := q_mem 801 (by decide +kernel) rfl
set_option maxRecDepth 100000 in
theorem k_802 : Cond.code ⟨"SlippedStreams", "output", "(IZ)I"⟩ prog_1_method_19_code 3 (some .int) ∈ q_big := q_mem 802 (rfl) rfl
theorem k_895 : Cond.methodLink "SlippedStreamsLaw" 17 ⟨"SlippedStreamsModel", "add", "(IIII)I"⟩ ∈ q_big := q_mem 895 (by decide +kernel) rfl
theorem k_896 : Cond.instanceMethod ⟨"SlippedStreamsModel", "add", "(IIII)I"⟩ ∈ q_big := q_mem 896 (by decide +kernel) rfl
theorem k_897 : Cond.selects "SlippedStreamsModel" ⟨"SlippedStreamsModel", "add", "(IIII)I"⟩ ⟨"SlippedStreamsModel", "add", "(IIII)I"⟩ ∈ q_big := q_mem 897 (by decide +kernel) rfl
set_option maxRecDepth 100000 in
theorem k_898 : Cond.code ⟨"SlippedStreamsModel", "add", "(IIII)I"⟩ prog_13_method_3_code 6 (some .int) ∈ q_big := q_mem 898 (rfl) rfl
theorem k_941 : Cond.methodLink "SlippedStreamsLaw" 22 ⟨"SlippedStreamsModel", "fill", "(II)V"⟩ ∈ q_big := q_mem 941 (by decide +kernel) rfl
theorem k_942 : Cond.instanceMethod ⟨"SlippedStreamsModel", "fill", "(II)V"⟩ ∈ q_big := q_mem 942 (by decide +kernel) rfl
theorem k_943 : Cond.selects "SlippedStreamsModel" ⟨"SlippedStreamsModel", "fill", "(II)V"⟩ ⟨"SlippedStreamsModel", "fill", "(II)V"⟩ ∈ q_big := q_mem 943 (by decide +kernel) rfl
set_option maxRecDepth 100000 in
theorem k_944 : Cond.code ⟨"SlippedStreamsModel", "fill", "(II)V"⟩ prog_13_method_4_code 3 none ∈ q_big := q_mem 944 (rfl) rfl
theorem k_945 : Cond.methodLink "SlippedStreamsLaw" 27 ⟨"SlippedStreamsModel", "clear", "()I"⟩ ∈ q_big := q_mem 945 (by decide +kernel) rfl
theorem k_946 : Cond.instanceMethod ⟨"SlippedStreamsModel", "clear", "()I"⟩ ∈ q_big := q_mem 946 (by decide +kernel) rfl
theorem k_947 : Cond.selects "SlippedStreamsModel" ⟨"SlippedStreamsModel", "clear", "()I"⟩ ⟨"SlippedStreamsModel", "clear", "()I"⟩ ∈ q_big := q_mem 947 (by decide +kernel) rfl
set_option maxRecDepth 100000 in
theorem k_948 : Cond.code ⟨"SlippedStreamsModel", "clear", "()I"⟩ prog_13_method_5_code 2 (some .int) ∈ q_big := q_mem 948 (rfl) rfl
theorem k_949 : Cond.methodLink "SlippedStreamsLaw" 31 ⟨"SlippedStreamsModel", "reset", "()V"⟩ ∈ q_big := q_mem 949 (by decide +kernel) rfl
theorem k_950 : Cond.methodLink "SlippedStreamsLaw" 44 ⟨"SlippedStreamsModel", "address", "(I)I"⟩ ∈ q_big := q_mem 950 (by decide +kernel) rfl
theorem k_951 : Cond.instanceMethod ⟨"SlippedStreamsModel", "address", "(I)I"⟩ ∈ q_big := q_mem 951 (by decide +kernel) rfl
theorem k_952 : Cond.selects "SlippedStreamsModel" ⟨"SlippedStreamsModel", "address", "(I)I"⟩ ⟨"SlippedStreamsModel", "address", "(I)I"⟩ ∈ q_big := q_mem 952 (by decide +kernel) rfl
set_option maxRecDepth 100000 in
theorem k_953 : Cond.code ⟨"SlippedStreamsModel", "address", "(I)I"⟩ prog_13_method_35_code 3 (some .int) ∈ q_big := q_mem 953 (rfl) rfl
theorem k_1007 : Cond.methodLink "SlippedStreamsLaw" 48 ⟨"SlippedStreamsModel", "value", "(I)I"⟩ ∈ q_big := q_mem 1007 (by decide +kernel) rfl
theorem k_1008 : Cond.instanceMethod ⟨"SlippedStreamsModel", "value", "(I)I"⟩ ∈ q_big := q_mem 1008 (by decide +kernel) rfl
theorem k_1009 : Cond.selects "SlippedStreamsModel" ⟨"SlippedStreamsModel", "value", "(I)I"⟩ ⟨"SlippedStreamsModel", "value", "(I)I"⟩ ∈ q_big := q_mem 1009 (by decide +kernel) rfl
set_option maxRecDepth 100000 in
theorem k_1010 : Cond.code ⟨"SlippedStreamsModel", "value", "(I)I"⟩ prog_13_method_36_code 3 (some .int) ∈ q_big := q_mem 1010 (rfl) rfl
theorem k_1031 : Cond.methodLink "SlippedStreamsLaw" 52 ⟨"SlippedStreamsModel", "both", "(I)I"⟩ ∈ q_big := q_mem 1031 (by decide +kernel) rfl
theorem k_1032 : Cond.instanceMethod ⟨"SlippedStreamsModel", "both", "(I)I"⟩ ∈ q_big := q_mem 1032 (by decide +kernel) rfl
theorem k_1033 : Cond.selects "SlippedStreamsModel" ⟨"SlippedStreamsModel", "both", "(I)I"⟩ ⟨"SlippedStreamsModel", "both", "(I)I"⟩ ∈ q_big := q_mem 1033 (by decide +kernel) rfl
set_option maxRecDepth 100000 in
theorem k_1034 : Cond.code ⟨"SlippedStreamsModel", "both", "(I)I"⟩ prog_13_method_37_code 4 (some .int) ∈ q_big := q_mem 1034 (rfl) rfl
theorem k_1035 : Cond.methodLink "SlippedStreamsLaw" 81 ⟨"SlippedStreamsModel", "plain", "(I)I"⟩ ∈ q_big := q_mem 1035 (by decide +kernel) rfl
theorem k_1036 : Cond.instanceMethod ⟨"SlippedStreamsModel", "plain", "(I)I"⟩ ∈ q_big := q_mem 1036 (by decide +kernel) rfl
theorem k_1037 : Cond.selects "SlippedStreamsModel" ⟨"SlippedStreamsModel", "plain", "(I)I"⟩ ⟨"SlippedStreamsModel", "plain", "(I)I"⟩ ∈ q_big := q_mem 1037 (by decide +kernel) rfl
set_option maxRecDepth 100000 in
theorem k_1038 : Cond.code ⟨"SlippedStreamsModel", "plain", "(I)I"⟩ prog_13_method_39_code 3 (some .int) ∈ q_big := q_mem 1038 (rfl) rfl
theorem k_1043 : Cond.methodLink "SlippedStreamsLaw" 36 ⟨"SlippedStreamsModel", "streamOf", "(I)I"⟩ ∈ q_big := q_mem 1043 (by decide +kernel) rfl
theorem k_1044 : Cond.instanceMethod ⟨"SlippedStreamsModel", "streamOf", "(I)I"⟩ ∈ q_big := q_mem 1044 (by decide +kernel) rfl
theorem k_1045 : Cond.selects "SlippedStreamsModel" ⟨"SlippedStreamsModel", "streamOf", "(I)I"⟩ ⟨"SlippedStreamsModel", "streamOf", "(I)I"⟩ ∈ q_big := q_mem 1045 (by decide +kernel) rfl
set_option maxRecDepth 100000 in
theorem k_1046 : Cond.code ⟨"SlippedStreamsModel", "streamOf", "(I)I"⟩ prog_13_method_40_code 2 (some .int) ∈ q_big := q_mem 1046 (rfl) rfl
theorem k_1047 : Cond.methodLink "SlippedStreamsLaw" 40 ⟨"SlippedStreamsModel", "addressRegisters", "()I"⟩ ∈ q_big := q_mem 1047 (by decide +kernel) rfl
theorem k_1048 : Cond.instanceMethod ⟨"SlippedStreamsModel", "addressRegisters", "()I"⟩ ∈ q_big := q_mem 1048 (by decide +kernel) rfl
theorem k_1049 : Cond.selects "SlippedStreamsModel" ⟨"SlippedStreamsModel", "addressRegisters", "()I"⟩ ⟨"SlippedStreamsModel", "addressRegisters", "()I"⟩ ∈ q_big := q_mem 1049 (by decide +kernel) rfl
set_option maxRecDepth 100000 in
theorem k_1050 : Cond.code ⟨"SlippedStreamsModel", "addressRegisters", "()I"⟩ prog_13_method_41_code 3 (some .int) ∈ q_big := q_mem 1050 (rfl) rfl
theorem k_1051 : Cond.methodLink "SlippedStreamsLaw" 56 ⟨"SlippedStreamsModel", "place", "(I)I"⟩ ∈ q_big := q_mem 1051 (by decide +kernel) rfl
theorem k_1052 : Cond.instanceMethod ⟨"SlippedStreamsModel", "place", "(I)I"⟩ ∈ q_big := q_mem 1052 (by decide +kernel) rfl
theorem k_1053 : Cond.selects "SlippedStreamsModel" ⟨"SlippedStreamsModel", "place", "(I)I"⟩ ⟨"SlippedStreamsModel", "place", "(I)I"⟩ ∈ q_big := q_mem 1053 (by decide +kernel) rfl
set_option maxRecDepth 100000 in
theorem k_1054 : Cond.code ⟨"SlippedStreamsModel", "place", "(I)I"⟩ prog_13_method_42_code 3 (some .int) ∈ q_big := q_mem 1054 (rfl) rfl
theorem k_1055 : Cond.methodLink "SlippedStreamsLaw" 60 ⟨"SlippedStreamsModel", "slip", "()I"⟩ ∈ q_big := q_mem 1055 (by decide +kernel) rfl
theorem k_1056 : Cond.instanceMethod ⟨"SlippedStreamsModel", "slip", "()I"⟩ ∈ q_big := q_mem 1056 (by decide +kernel) rfl
theorem k_1057 : Cond.selects "SlippedStreamsModel" ⟨"SlippedStreamsModel", "slip", "()I"⟩ ⟨"SlippedStreamsModel", "slip", "()I"⟩ ∈ q_big := q_mem 1057 (by decide +kernel) rfl
set_option maxRecDepth 100000 in
theorem k_1058 : Cond.code ⟨"SlippedStreamsModel", "slip", "()I"⟩ prog_13_method_43_code 1 (some .int) ∈ q_big := q_mem 1058 (rfl) rfl
theorem k_1059 : Cond.methodLink "SlippedStreamsLaw" 64 ⟨"SlippedStreamsModel", "queue", "(I)I"⟩ ∈ q_big := q_mem 1059 (by decide +kernel) rfl
theorem k_1060 : Cond.instanceMethod ⟨"SlippedStreamsModel", "queue", "(I)I"⟩ ∈ q_big := q_mem 1060 (by decide +kernel) rfl
theorem k_1061 : Cond.selects "SlippedStreamsModel" ⟨"SlippedStreamsModel", "queue", "(I)I"⟩ ⟨"SlippedStreamsModel", "queue", "(I)I"⟩ ∈ q_big := q_mem 1061 (by decide +kernel) rfl
set_option maxRecDepth 100000 in
theorem k_1062 : Cond.code ⟨"SlippedStreamsModel", "queue", "(I)I"⟩ prog_13_method_44_code 2 (some .int) ∈ q_big := q_mem 1062 (rfl) rfl
theorem k_1063 : Cond.methodLink "SlippedStreamsLaw" 69 ⟨"SlippedStreamsModel", "register", "(IZ)I"⟩ ∈ q_big := q_mem 1063 (by decide +kernel) rfl
theorem k_1064 : Cond.instanceMethod ⟨"SlippedStreamsModel", "register", "(IZ)I"⟩ ∈ q_big := q_mem 1064 (by decide +kernel) rfl
theorem k_1065 : Cond.selects "SlippedStreamsModel" ⟨"SlippedStreamsModel", "register", "(IZ)I"⟩ ⟨"SlippedStreamsModel", "register", "(IZ)I"⟩ ∈ q_big := q_mem 1065 (by decide +kernel) rfl
set_option maxRecDepth 100000 in
theorem k_1066 : Cond.code ⟨"SlippedStreamsModel", "register", "(IZ)I"⟩ prog_13_method_45_code 3 (some .int) ∈ q_big := q_mem 1066 (rfl) rfl
theorem k_1067 : Cond.methodLink "SlippedStreamsLaw" 73 ⟨"SlippedStreamsModel", "peek", "(IZ)I"⟩ ∈ q_big := q_mem 1067 (by decide +kernel) rfl
theorem k_1068 : Cond.instanceMethod ⟨"SlippedStreamsModel", "peek", "(IZ)I"⟩ ∈ q_big := q_mem 1068 (by decide +kernel) rfl
theorem k_1069 : Cond.selects "SlippedStreamsModel" ⟨"SlippedStreamsModel", "peek", "(IZ)I"⟩ ⟨"SlippedStreamsModel", "peek", "(IZ)I"⟩ ∈ q_big := q_mem 1069 (by decide +kernel) rfl
set_option maxRecDepth 100000 in
theorem k_1070 : Cond.code ⟨"SlippedStreamsModel", "peek", "(IZ)I"⟩ prog_13_method_46_code 3 (some .int) ∈ q_big := q_mem 1070 (rfl) rfl
theorem k_1071 : Cond.methodLink "SlippedStreamsLaw" 77 ⟨"SlippedStreamsModel", "losses", "()I"⟩ ∈ q_big := q_mem 1071 (by decide +kernel) rfl
theorem k_1072 : Cond.instanceMethod ⟨"SlippedStreamsModel", "losses", "()I"⟩ ∈ q_big := q_mem 1072 (by decide +kernel) rfl
theorem k_1073 : Cond.selects "SlippedStreamsModel" ⟨"SlippedStreamsModel", "losses", "()I"⟩ ⟨"SlippedStreamsModel", "losses", "()I"⟩ ∈ q_big := q_mem 1073 (by decide +kernel) rfl
set_option maxRecDepth 100000 in
theorem k_1074 : Cond.code ⟨"SlippedStreamsModel", "losses", "()I"⟩ prog_13_method_47_code 1 (some .int) ∈ q_big := q_mem 1074 (rfl) rfl
theorem k_1075 : Cond.methodLink "SlippedStreamsLaw" 86 ⟨"SlippedStreamsModel", "outputs", "(Z)I"⟩ ∈ q_big := q_mem 1075 (by decide +kernel) rfl
theorem k_1076 : Cond.instanceMethod ⟨"SlippedStreamsModel", "outputs", "(Z)I"⟩ ∈ q_big := q_mem 1076 (by decide +kernel) rfl
theorem k_1077 : Cond.selects "SlippedStreamsModel" ⟨"SlippedStreamsModel", "outputs", "(Z)I"⟩ ⟨"SlippedStreamsModel", "outputs", "(Z)I"⟩ ∈ q_big := q_mem 1077 (by decide +kernel) rfl
set_option maxRecDepth 100000 in
theorem k_1078 : Cond.code ⟨"SlippedStreamsModel", "outputs", "(Z)I"⟩ prog_13_method_48_code 2 (some .int) ∈ q_big := q_mem 1078 (rfl) rfl
theorem k_1079 : Cond.methodLink "SlippedStreamsLaw" 90 ⟨"SlippedStreamsModel", "output", "(IZ)I"⟩ ∈ q_big := q_mem 1079 (by decide +kernel) rfl
theorem k_1080 : Cond.instanceMethod ⟨"SlippedStreamsModel", "output", "(IZ)I"⟩ ∈ q_big := q_mem 1080 (by decide +kernel) rfl
theorem k_1081 : Cond.selects "SlippedStreamsModel" ⟨"SlippedStreamsModel", "output", "(IZ)I"⟩ ⟨"SlippedStreamsModel", "output", "(IZ)I"⟩ ∈ q_big := q_mem 1081 (by decide +kernel) rfl
set_option maxRecDepth 100000 in
theorem k_1082 : Cond.code ⟨"SlippedStreamsModel", "output", "(IZ)I"⟩ prog_13_method_49_code 4 (some .int) ∈ q_big := q_mem 1082 (rfl) rfl
