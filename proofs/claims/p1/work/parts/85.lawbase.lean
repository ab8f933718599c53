/-! THE CLAIM OUT OF ONE WALK OF THE LAW'S BODY. Your part is whole_start (and what it stands on); all else here is the same for every law, but numbers. -/
def R_law : String := "TopTurnedLaw"
def lw_P (b : Addr) (xs : List Int32) (args : Array Value) (s : State) : Prop := args = #[.ref b] ∧ s.IntsAt b xs ∧ xs.length ≤ 3 ∧ (Jvm.Cond.and given_1 narrow_1).before args s = true
def lw_Q (_ : Array Value) (s : State) (o : Outcome) (t : State) : Prop := o = .returned (some (.int 1)) ∧ Framed s o t [] 600000 7302250
def lw_Z (below : List Frame) (a : Array Value) (s : State) : State → Prop := fun t => ∃ o, t.status = .running ∧ Ended t below o ∧ lw_Q a s o t
/-- the law's own end, with 1 on the stack, nothing written that was there before, its room as the claim has it -/
theorem lw_ret {p : Program} {l : Launch} {e : Env} {s : State} {m : MethodId} {below : List Frame} {meth : Method} {c : Code} {b : Nat} (hx : p.tables.exec = Jvm.exec) (hb : c.code = code) (hr : meth.sig.returnType = ret) (hlocks : meth.locks = false) {pc : Nat} {H : Heap} {ls : Array Slot} (hdg : decode code pc = .ok (.ireturn, 1)) : W p l e room_1 s m #[Value.ref b] below meth c H [] 600000 7302250 (lw_Z below #[Value.ref b] s) (F0 m pc ls [.int 1]) := by
  intro T hT X
  obtain ⟨fs, hret, hrun, hended, hW, hframe⟩ := X.leave (v := some (.int 1)) (hlocks := hlocks) (fun h => by rw [hr] at h; cases h)
  have hmeth' : T.vm.method? m = some meth := X.method'
  refine ⟨T.setFrames fs, ?_, .returned (some (.int 1)), hrun, hended, rfl, ⟨_, rfl⟩, hW, hframe⟩
  jvm_step X.here [X.here.top, hx, hb, hdg, hmeth', hr, ret, narrow_b1]
  (try refine ⟨rfl, ?_⟩); (try refine ⟨rfl, ?_⟩)
  first | (intro acts; rw [hret _ acts rfl rfl rfl]) | rw [hret _ _ rfl rfl rfl]
  exact Steps.refl _
/-- what holds at the law's entry: the machine, the code, the tables' words (any of lw_tbl by 'hts w (by decide +kernel)'), the script of L ints xs at the cell b, what the Statement gives of the start (any of its parts by flat_of_before) -/
def lw_At (p : Program) (s : State) (m : MethodId) (meth : Method) (c : Code) (b L : Nat) (xs : Nat → Int32) : Prop :=
  p.tables.exec = Jvm.exec ∧ c.code = code ∧ meth.sig.returnType = ret ∧ c.maxLocals = 4 ∧ s.vm.findClass R_law = some m.cls ∧ (∀ w ∈ lw_tbl, w.before #[Value.ref b] s = true) ∧ va_X b L xs s s.heap ∧ b < s.heap.size ∧ meth.locks = false ∧ (Jvm.Cond.and given_1 narrow_1).before #[Value.ref b] s = true
set_option maxRecDepth 100000 in
theorem le_letter (p1 : Int32) : ((if 0 ≤ p1 then (if 255 < p1 then (-6) else 1) else (-4)) : Int32) = (if 0 ≤ p1 then (if 255 < p1 then (-6) else 1) else (-4)) := by
  rfl
set_option maxRecDepth 100000 in
theorem le_kitchen : ((-1000) : Int32) = (-1000) := by
  rfl
set_option maxRecDepth 100000 in
theorem le_place (p1 p2 : Int32) : ((-1) : Int32) = (-1) := by
  rfl
set_option maxRecDepth 100000 in
theorem le_law (p1 : Int32) : ((if p1 < 0 then (-2) else (if p1 < 5 then 0 else (-2))) : Int32) = (if p1 < 0 then (-2) else (if p1 ≤ 4 then 0 else (-2))) := by
  have em2 : Int32.toInt (-2) = -2 := by decide
  have e0 : Int32.toInt 0 = 0 := by decide
  have e4 : Int32.toInt 4 = 4 := by decide
  have e5 : Int32.toInt 5 = 5 := by decide
  repeat' split
  all_goals first | rfl | (exfalso; simp only [fa_lt, fa_le, fa_eq] at *; omega)
set_option maxRecDepth 100000 in
theorem le_may (p1 p2 : Int32) : ((-1) : Int32) = (-1) := by
  rfl
set_option maxRecDepth 100000 in
theorem le_turn (p1 p2 : Int32) : ((-1) : Int32) = (-1) := by
  rfl
set_option maxRecDepth 100000 in
theorem le_inOrder : (1 : Int32) = 1 := by
  rfl
set_option maxRecDepth 100000 in
theorem le_gaps : (0 : Int32) = 0 := by
  rfl
set_option maxRecDepth 100000 in
theorem le_least : (0 : Int32) = 0 := by
  rfl
set_option maxRecDepth 100000 in
theorem le_cheapest : (0 : Int32) = 0 := by
  rfl
set_option maxRecDepth 100000 in
theorem le_ways : (1 : Int32) = 1 := by
  rfl
set_option maxRecDepth 100000 in
theorem le_far (p1 : Int32) : ((if (-1) ≤ p1 then (if p1 ≤ 20 then (if 0 = p1 then 1 else 0) else (-6)) else (-4)) : Int32) = (if (-1) ≤ p1 then (if p1 ≤ 20 then (if 0 = p1 then 1 else 0) else (-6)) else (-4)) := by
  rfl
set_option maxRecDepth 100000 in
theorem le_worst (p1 : Int32) : ((if p1 < (-1) then (-1) else (if p1 < 0 then (-3) else (-1))) : Int32) = (if p1 < (-1) then (-1) else (if p1 < 0 then (-3) else (-1))) := by
  rfl
set_option maxRecDepth 100000 in
theorem le_before (p1 : Int32) : ((if 0 ≤ p1 then (if p1 ≤ 4 then (if p1 = 0 then 1 else 0) else (-6)) else (-4)) : Int32) = (if 0 ≤ p1 then (if p1 ≤ 4 then (if p1 = 0 then 1 else 0) else (-6)) else (-4)) := by
  rfl
set_option maxRecDepth 100000 in
theorem le_next (p1 : Int32) : ((if p1 < 0 then (-2) else (if p1 < 5 then (-9) else (-2))) : Int32) = (if p1 < 0 then (-2) else (if p1 ≤ 4 then (-9) else (-2))) := by
  have em9 : Int32.toInt (-9) = -9 := by decide
  have em2 : Int32.toInt (-2) = -2 := by decide
  have e0 : Int32.toInt 0 = 0 := by decide
  have e4 : Int32.toInt 4 = 4 := by decide
  have e5 : Int32.toInt 5 = 5 := by decide
  repeat' split
  all_goals first | rfl | (exfalso; simp only [fa_lt, fa_le, fa_eq] at *; omega)
set_option maxRecDepth 100000 in
theorem le_rule (p1 : Int32) : ((if p1 < 0 then (-2) else (if p1 < 5 then 0 else (-2))) : Int32) = (if p1 < 0 then (-2) else (if p1 ≤ 4 then 0 else (-2))) := by
  have em2 : Int32.toInt (-2) = -2 := by decide
  have e0 : Int32.toInt 0 = 0 := by decide
  have e4 : Int32.toInt 4 = 4 := by decide
  have e5 : Int32.toInt 5 = 5 := by decide
  repeat' split
  all_goals first | rfl | (exfalso; simp only [fa_lt, fa_le, fa_eq] at *; omega)
set_option maxRecDepth 100000 in
theorem le_row (p1 : Int32) : ((if 0 ≤ p1 then (if 99 < p1 then (-6) else 1) else (-4)) : Int32) = (if 0 ≤ p1 then (if 99 < p1 then (-6) else 1) else (-4)) := by
  rfl
set_option maxRecDepth 100000 in
theorem le_path : (0 : Int32) = 0 := by
  rfl
set_option maxRecDepth 100000 in
theorem le_judge : ((-9) : Int32) = (-9) := by
  rfl
set_option maxRecDepth 100000 in
theorem le_blind : (1 : Int32) = 1 := by
  rfl
set_option maxRecDepth 100000 in
theorem le_fewest (p1 : Int32) : ((if (-1) ≤ p1 then (if 0 ≤ p1 then (-9) else 0) else (-4)) : Int32) = (if (-1) ≤ p1 then (if 0 ≤ p1 then (-9) else 0) else (-4)) := by
  rfl
set_option maxRecDepth 100000 in
theorem le_match : (0 : Int32) = 0 := by
  rfl
set_option maxRecDepth 100000 in
theorem le_shuffled (p1 p2 : Int32) : ((if 0 ≤ p1 then (if p1 ≤ 30 then 0 else (-6)) else (-4)) : Int32) = (if 0 ≤ p1 then (if p1 ≤ 30 then 0 else (-6)) else (-4)) := by
  rfl
set_option maxRecDepth 100000 in
theorem le_sights (p1 p2 : Int32) : ((-1) : Int32) = (-1) := by
  rfl
set_option maxRecDepth 100000 in
theorem le_image : (0 : Int32) = 0 := by
  rfl
set_option maxRecDepth 100000 in
theorem le_on : ((-3) : Int32) = (-3) := by
  rfl
set_option maxRecDepth 100000 in
theorem le_count (p1 : Int32) : ((if p1 = 0 then 0 else (if p1 = 1 then 0 else (if p1 = 2 then 0 else (if p1 = 3 then 5 else (if p1 = 4 then 9 else (if p1 = 5 then 0 else (if p1 = 6 then 0 else (if p1 = 7 then 0 else (if p1 = 8 then 0 else (if p1 = 9 then 0 else (if p1 = 10 then (-9) else (if p1 = 11 then 0 else (if p1 = 12 then 0 else (if p1 = 13 then 0 else (if p1 = 14 then 0 else (if p1 = 15 then 0 else (if p1 = 16 then 0 else (-9)))))))))))))))))) : Int32) = (if p1 = 0 then 0 else (if p1 = 1 then 0 else (if p1 = 2 then 0 else (if p1 = 3 then 5 else (if p1 = 4 then 9 else (if p1 = 5 then 0 else (if p1 = 6 then 0 else (if p1 = 7 then 0 else (if p1 = 8 then 0 else (if p1 = 9 then 0 else (if p1 = 10 then (-9) else (if p1 = 11 then 0 else (if p1 = 12 then 0 else (if p1 = 13 then 0 else (if p1 = 14 then 0 else (if p1 = 15 then 0 else (if p1 = 16 then 0 else (-9)))))))))))))))))) := by
  rfl
set_option maxRecDepth 100000 in
theorem kKnown {p : Program} {s : State} {m : MethodId} {meth : Method} {c : Code} {b L : Nat} {xs : Nat → Int32} (C0 : lw_At p s m meth c b L xs) : ∃ (D : va_G) (cC cI cZ : ClassId), va_K D vwCl (kT cC cI cZ) s := by
  obtain ⟨hx, hb, hr, hml, hown, hts, hX, hbl, hlocks, hgv⟩ := id C0
  obtain ⟨c0, iS0, hKn0⟩ := u_known (C := RX0) (T := TX0) (N := 7) (n := 7) hts lay_X0 (hts (.instantiable RX0 7) (hw_200))
  obtain ⟨c1, iS1, hKn1⟩ := u_known (C := RX1) (T := TX1) (N := 9) (n := 9) hts lay_X1 (hts (.instantiable RX1 9) (hw_164))
  obtain ⟨c2, iS2, hKn2⟩ := u_known (C := RX2) (T := TX2) (N := 1) (n := 1) hts lay_X2 (hts (.instantiable RX2 1) (hw_104))
  obtain ⟨c3, iS3, hKn3⟩ := u_known (C := RX3) (T := TX3) (N := 6) (n := 6) hts lay_X3 (hts (.instantiable RX3 6) (hw_137))
  obtain ⟨c4, iS4, hKn4⟩ := u_known (C := RX4) (T := TX4) (N := 3) (n := 3) hts lay_X4 (hts (.instantiable RX4 3) (hw_150))
  obtain ⟨c5, iS5, hKn5⟩ := u_known (C := RX5) (T := TX5) (N := 11) (n := 11) hts lay_X5 (hts (.instantiable RX5 11) (hw_111))
  obtain ⟨c6, iS6, hKn6⟩ := u_known (C := RX6) (T := TX6) (N := 17) (n := 17) hts lay_X6 (hts (.instantiable RX6 17) (hw_64))
  obtain ⟨c7, iS7, hKn7⟩ := u_known (C := RX7) (T := TX7) (N := 3) (n := 3) hts lay_X7 (hts (.instantiable RX7 3) (hw_191))
  obtain ⟨c8, iS8, hKn8⟩ := u_known (C := RX8) (T := TX8) (N := 6) (n := 6) hts lay_X8 (hts (.instantiable RX8 6) (hw_179))
  obtain ⟨c9, iS9, hKn9⟩ := u_known (C := RX9) (T := TX9) (N := 12) (n := 12) hts lay_X9 (hts (.instantiable RX9 12) (hw_56))
  obtain ⟨c10, iS10, hKn10⟩ := u_known (C := RX10) (T := TX10) (N := 34) (n := 34) hts lay_X10 (hts (.instantiable RX10 34) (hw_533))
  obtain ⟨cC, kC, compC, f1C, f2C, f3C⟩ := Cond.arrayClass_spec (hts (.arrayClass .char) (hw_572))
  obtain ⟨cI, kI, compI, f1I, f2I, f3I⟩ := Cond.arrayClass_spec (hts (.arrayClass .int) (hw_102))
  obtain ⟨cZ, kZ, compZ, f1Z, f2Z, f3Z⟩ := Cond.arrayClass_spec (hts (.arrayClass .boolean) (hw_148))
  refine ⟨(fun k => if k = 0 then c0 else if k = 1 then c1 else if k = 2 then c2 else if k = 3 then c3 else if k = 4 then c4 else if k = 5 then c5 else if k = 6 then c6 else if k = 7 then c7 else if k = 8 then c8 else if k = 9 then c9 else c10, fun k => if k = 0 then iS0 else if k = 1 then iS1 else if k = 2 then iS2 else if k = 3 then iS3 else if k = 4 then iS4 else if k = 5 then iS5 else if k = 6 then iS6 else if k = 7 then iS7 else if k = 8 then iS8 else if k = 9 then iS9 else iS10), cC, cI, cZ, ?_, ?_⟩
  · intro k q hq
    match k, hq with
    | 0, hq => cases hq; exact hKn0
    | 1, hq => cases hq; exact hKn1
    | 2, hq => cases hq; exact hKn2
    | 3, hq => cases hq; exact hKn3
    | 4, hq => cases hq; exact hKn4
    | 5, hq => cases hq; exact hKn5
    | 6, hq => cases hq; exact hKn6
    | 7, hq => cases hq; exact hKn7
    | 8, hq => cases hq; exact hKn8
    | 9, hq => cases hq; exact hKn9
    | 10, hq => cases hq; exact hKn10
    | k + 11, hq => simp [vwCl] at hq
  · intro k q hq
    match k, hq with
    | 0, hq => cases hq; exact ⟨fun n z => ⟨fun k h => (by cases h), kC, f2C, compC, f3C⟩, f1C⟩
    | 1, hq => cases hq; exact ⟨fun n z => ⟨fun k h => (by cases h), kI, f2I, compI, f3I⟩, f1I⟩
    | 2, hq => cases hq; exact ⟨fun n z => ⟨fun k h => (by cases h), kZ, f2Z, compZ, f3Z⟩, f1Z⟩
    | k + 3, hq => simp [kT] at hq
set_option maxHeartbeats 4000000 in
set_option maxRecDepth 100000 in
theorem law_end {p : Program} {l : Launch} {e : Env} {s : State} {m : MethodId} {below : List Frame} {meth : Method} {c : Code} {b L : Nat} {xs : Nat → Int32} (hL : L = 3) (C0 : lw_At p s m meth c b L xs) {H : Heap} {locs : List Loc} (hS : va_S (fun q : Nat => s.heap.size ≤ q) s.heap H locs) {ls : Array Slot} {q1 q2 : Nat} (hl : lv_has ls 4 [(3, .int 0), (2, .ref q2), (1, .ref q1), (0, .ref b)]) {cells slots : Nat} (hc : cells ≤ 600000) (hs : slots ≤ 7302250) : W p l e room_1 s m #[Value.ref b] below meth c H locs cells slots (lw_Z below #[Value.ref b] s) (F0 m 707 ls []) := by
  obtain ⟨hx, hb, hr, hml, hown, hts, hX, hbl, hlocks, hgv⟩ := id C0
  have hA : ∀ q : Nat, s.heap.size ≤ q → (fun q : Nat => s.heap.size ≤ q) q := fun _ h => h
  have hbA : ¬ (fun q : Nat => s.heap.size ≤ q) b := Nat.not_le.mpr hbl
  subst hL
  refine lv_iinc (v := 3) (lv' := [(3, .int 3), (2, .ref q2), (1, .ref q1), (0, .ref b)]) hx hb dL_law_707 hl (k := 0) rfl (by decide) (by decide) rfl (fun ls hl => ?_)
  refine lv_goto (tgt := 18) hx hb dL_law_710 (by decide) ?_
  refine lv_iload_n hx hb dL_law_18 rfl (lv_at hl 0 rfl) ?_
  refine lv_aload_n hx hb dL_law_19 rfl (lv_at hl 3 rfl) ?_
  refine va_slen hx hb hX hbl hbA hS dL_law_20 ?_
  refine kt_eq (y := 3) (by decide) ?_
  refine lv_iconst (v := 3) hx hb dL_law_21 (by decide) ?_
  refine lv_isub hx hb dL_law_22 ?_
  refine kt_eq (y := 0) (by decide) ?_
  refine lv_icmp_gt (tgt := 713) hx hb dL_law_23 (by decide) (fun _ => ?_) (fun c => absurd (by decide) c)
  refine lv_iconst (v := 1) hx hb dL_law_713 (by decide) ?_
  refine va_forget (fun q hq => hS.2.2 q hq) ?_
  refine W.widen (k := 600000) (n := 7302250) hc hs ?_
  exact lw_ret hx hb hr hlocks dL_law_714
