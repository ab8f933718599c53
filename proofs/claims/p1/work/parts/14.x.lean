def sw_k_X9_refuse : List Cond := .code yX9_refuse cX9_refuse 2 (some .int) :: (([.fieldLink RX9 90 "TopTurned" "refusals" "[I"] : List Cond) ++ (wsX90 ++ (([] : List Cond))))
theorem gd_k_X9_refuse : ∀ w ∈ sw_k_X9_refuse, (w.onTables && w.keeps) = true ∨ ∃ ty, w = .arrayClass ty := List.forall_mem_cons.mpr ⟨good_of_word rfl, List.forall_mem_append.mpr ⟨fun w h => good_of_word (List.all_eq_true.mp (by decide +kernel : (([.fieldLink RX9 90 "TopTurned" "refusals" "[I"] : List Cond)).all goodWord = true) w h), List.forall_mem_append.mpr ⟨gw_X9, fun _ h => absurd h List.not_mem_nil⟩⟩⟩
theorem iw_k_X9_refuse_X9 : ∀ w ∈ wsX90, w ∈ sw_k_X9_refuse := fun _ h => List.mem_cons_of_mem _ (List.mem_append_right _ (List.mem_append_left _ h))
set_option maxHeartbeats 4000000 in
set_option maxRecDepth 100000 in
theorem k_X9_refuse (l : Launch) (D : va_G) (cC cI cZ : ClassId) (h0 h1 h2 h3 h4 h5 h6 h7 h8 h9 h10 h11 : Nat) (sz : Nat) : Met l yX9_refuse sw_k_X9_refuse ({ frames := 2, cells := 0, slots := 0, locals := 100 }) (va_Pc [.ref h0, .int (-6)] (kPre D cC cI cZ [(h0, .inr (9, [.ref h2, .ref h3, .ref h4, .int 0, .ref h5, .ref h6, .ref h7, .ref h8, .ref h9, .ref h10, .ref h11, .ref h1])), (h1, .inl (cI, 7, .inl (fun _ => 0)))] sz)) (va_Qi (fun (r : Int32) (_ : Unit) => r = (-6)) (fun _ t => va_P D vwCl [(h0, .inr (9, [.ref h2, .ref h3, .ref h4, .int 0, .ref h5, .ref h6, .ref h7, .ref h8, .ref h9, .ref h10, .ref h11, .ref h1])), (h1, .inl (cI, 7, .inl (upd (fun _ => 0) (Int32.toNatClampNeg 6) 1)))] t.heap ∧ va_D (va_A [(h0, .inr (9, [.ref h2, .ref h3, .ref h4, .int 0, .ref h5, .ref h6, .ref h7, .ref h8, .ref h9, .ref h10, .ref h11, .ref h1])), (h1, .inl (cI, 7, .inl (fun _ => 0)))] sz) [(h0, .inr (9, [.ref h2, .ref h3, .ref h4, .int 0, .ref h5, .ref h6, .ref h7, .ref h8, .ref h9, .ref h10, .ref h11, .ref h1])), (h1, .inl (cI, 7, .inl (upd (fun _ => 0) (Int32.toNatClampNeg 6) 1)))]) (va_A [(h0, .inr (9, [.ref h2, .ref h3, .ref h4, .int 0, .ref h5, .ref h6, .ref h7, .ref h8, .ref h9, .ref h10, .ref h11, .ref h1])), (h1, .inl (cI, 7, .inl (fun _ => 0)))] sz)) 0 0 (va_A [(h0, .inr (9, [.ref h2, .ref h3, .ref h4, .int 0, .ref h5, .ref h6, .ref h7, .ref h8, .ref h9, .ref h10, .ref h11, .ref h1])), (h1, .inl (cI, 7, .inl (fun _ => 0)))] sz) := by
  refine Met.ofW (cc := cX9_refuse) (maxL := 2) (ret := (some .int)) (by decide) rfl ?_
  intro p e s m args below meth c s₁ B hml hv
  obtain ⟨rfl, hsz, hP, hK, hD0⟩ := hv
  have hx := B.exec
  have hb := B.bytes
  have hr := B.returns
  have hts := atoms_spec (ws := sw_k_X9_refuse) B.pre
  have hown : s.vm.findClass RX9 = some m.cls := findClass_of_methodNamed B.named
  have hlocks := B.notSynchronized
  subst hsz
  have hD := hD0.self (sz := s.heap.size)
  generalize hAe : va_A [(h0, .inr (9, [.ref h2, .ref h3, .ref h4, .int 0, .ref h5, .ref h6, .ref h7, .ref h8, .ref h9, .ref h10, .ref h11, .ref h1])), (h1, .inl (cI, 7, .inl (fun _ => 0)))] s.heap.size = A at hD ⊢
  have hA : ∀ q : Nat, s.heap.size ≤ q → A q := fun q h => by rw [← hAe]; exact Or.inr h
  have hS : va_S A s.heap s.heap [] := va_S.rf
  have hl := lv_entry ([.ref h0, .int (-6)]) (n := 2) (Nat.le_of_ble_eq_true rfl)
  rw [lg_entry_eq]
  generalize (lg_sl ([.ref h0, .int (-6)]) ++ List.replicate (2 - (lg_sl ([.ref h0, .int (-6)])).length) Slot.unset).toArray = ls at hl ⊢
  have hl : lv_has ls 2 [(0, .ref h0), (1, .int (-6))] := hl
  refine lv_aload_n hx hb dX9_refuse_0 rfl (lv_at hl 0 rfl) ?_
  refine va_get (D := D) (ci := 9) (v := .ref h1) (C := RX9) (T := TX9) (N := 12) hx hb hts iw_k_X9_refuse_X9 hown hK hP 0 rfl rfl 11 (by decide) (hts (.fieldLink RX9 90 "TopTurned" "refusals" "[I") (by decide +kernel)) (fun _ h9 => h9) rfl dX9_refuse_1 ?_
  refine lv_iload_n hx hb dX9_refuse_4 rfl (lv_at hl 1 rfl) ?_
  refine lv_ineg hx hb dX9_refuse_5 ?_
  refine kt_eq (y := 6) (by decide +kernel) ?_
  refine lv_dup2_11 hx hb dX9_refuse_6 rfl rfl ?_
  refine va_iald (i := 6) hx hb hK hP 1 1 rfl rfl (vp_in_iff.mpr (by decide)) dX9_refuse_7 ?_
  refine kt_eq (y := 0) (by decide +kernel) ?_
  refine lv_iconst (v := 1) hx hb dX9_refuse_8 (by decide) ?_
  refine lv_iadd hx hb dX9_refuse_9 ?_
  refine kt_eq (y := 1) (by decide +kernel) ?_
  refine va_iast (i := 6) (x := 1) hx hb hK hP hD hS 1 1 rfl rfl (vp_in_iff.mpr (by decide)) dX9_refuse_10 (fun H locs hP hD hS => ?_)
  have hP : va_P D vwCl [(h0, .inr (9, [.ref h2, .ref h3, .ref h4, .int 0, .ref h5, .ref h6, .ref h7, .ref h8, .ref h9, .ref h10, .ref h11, .ref h1])), (h1, .inl (cI, 7, .inl (upd (fun _ => 0) (Int32.toNatClampNeg 6) 1)))] H := hP
  have hD : va_D A [(h0, .inr (9, [.ref h2, .ref h3, .ref h4, .int 0, .ref h5, .ref h6, .ref h7, .ref h8, .ref h9, .ref h10, .ref h11, .ref h1])), (h1, .inl (cI, 7, .inl (upd (fun _ => 0) (Int32.toNatClampNeg 6) 1)))] := hD
  refine lv_iload_n hx hb dX9_refuse_11 rfl (lv_at hl 1 rfl) ?_
  refine W.widen (k := 0) (n := 0) (Nat.le_of_ble_eq_true rfl) (Nat.le_of_ble_eq_true rfl) ?_
  have hP9 := hP.sub (ws' := [(h0, .inr (9, [.ref h2, .ref h3, .ref h4, .int 0, .ref h5, .ref h6, .ref h7, .ref h8, .ref h9, .ref h10, .ref h11, .ref h1])), (h1, .inl (cI, 7, .inl (upd (fun _ => 0) (Int32.toNatClampNeg 6) 1)))]) [0, 1] rfl
  have hD9 := hD.sub (ws' := [(h0, .inr (9, [.ref h2, .ref h3, .ref h4, .int 0, .ref h5, .ref h6, .ref h7, .ref h8, .ref h9, .ref h10, .ref h11, .ref h1])), (h1, .inl (cI, 7, .inl (upd (fun _ => 0) (Int32.toNatClampNeg 6) 1)))]) [0, 1] (by decide) rfl
  exact W.iret (v := (-6)) hx hb hr (fun t ht hW => ⟨⟨(-6), (), rfl, rfl, ⟨by rw [ht]; exact hP9, hD9⟩⟩, hS.F ht⟩) hS.2.2 dX9_refuse_12
def sw_k_X9_refuse_1 : List Cond := .code yX9_refuse cX9_refuse 2 (some .int) :: (([.fieldLink RX9 90 "TopTurned" "refusals" "[I"] : List Cond) ++ (wsX90 ++ (([] : List Cond))))
theorem gd_k_X9_refuse_1 : ∀ w ∈ sw_k_X9_refuse_1, (w.onTables && w.keeps) = true ∨ ∃ ty, w = .arrayClass ty := List.forall_mem_cons.mpr ⟨good_of_word rfl, List.forall_mem_append.mpr ⟨fun w h => good_of_word (List.all_eq_true.mp (by decide +kernel : (([.fieldLink RX9 90 "TopTurned" "refusals" "[I"] : List Cond)).all goodWord = true) w h), List.forall_mem_append.mpr ⟨gw_X9, fun _ h => absurd h List.not_mem_nil⟩⟩⟩
theorem iw_k_X9_refuse_1_X9 : ∀ w ∈ wsX90, w ∈ sw_k_X9_refuse_1 := fun _ h => List.mem_cons_of_mem _ (List.mem_append_right _ (List.mem_append_left _ h))
set_option maxHeartbeats 4000000 in
set_option maxRecDepth 100000 in
theorem k_X9_refuse_1 (l : Launch) (D : va_G) (cC cI cZ : ClassId) (h0 h1 h2 h3 h4 h5 h6 h7 h8 h9 h10 h11 : Nat) (sz : Nat) : Met l yX9_refuse sw_k_X9_refuse_1 ({ frames := 2, cells := 0, slots := 0, locals := 100 }) (va_Pc [.ref h0, .int (-4)] (kPre D cC cI cZ [(h0, .inr (9, [.ref h2, .ref h3, .ref h4, .int 0, .ref h5, .ref h6, .ref h7, .ref h8, .ref h9, .ref h10, .ref h11, .ref h1])), (h1, .inl (cI, 7, .inl (fun _ => 0)))] sz)) (va_Qi (fun (r : Int32) (_ : Unit) => r = (-4)) (fun _ t => va_P D vwCl [(h0, .inr (9, [.ref h2, .ref h3, .ref h4, .int 0, .ref h5, .ref h6, .ref h7, .ref h8, .ref h9, .ref h10, .ref h11, .ref h1])), (h1, .inl (cI, 7, .inl (upd (fun _ => 0) (Int32.toNatClampNeg 4) 1)))] t.heap ∧ va_D (va_A [(h0, .inr (9, [.ref h2, .ref h3, .ref h4, .int 0, .ref h5, .ref h6, .ref h7, .ref h8, .ref h9, .ref h10, .ref h11, .ref h1])), (h1, .inl (cI, 7, .inl (fun _ => 0)))] sz) [(h0, .inr (9, [.ref h2, .ref h3, .ref h4, .int 0, .ref h5, .ref h6, .ref h7, .ref h8, .ref h9, .ref h10, .ref h11, .ref h1])), (h1, .inl (cI, 7, .inl (upd (fun _ => 0) (Int32.toNatClampNeg 4) 1)))]) (va_A [(h0, .inr (9, [.ref h2, .ref h3, .ref h4, .int 0, .ref h5, .ref h6, .ref h7, .ref h8, .ref h9, .ref h10, .ref h11, .ref h1])), (h1, .inl (cI, 7, .inl (fun _ => 0)))] sz)) 0 0 (va_A [(h0, .inr (9, [.ref h2, .ref h3, .ref h4, .int 0, .ref h5, .ref h6, .ref h7, .ref h8, .ref h9, .ref h10, .ref h11, .ref h1])), (h1, .inl (cI, 7, .inl (fun _ => 0)))] sz) := by
  refine Met.ofW (cc := cX9_refuse) (maxL := 2) (ret := (some .int)) (by decide) rfl ?_
  intro p e s m args below meth c s₁ B hml hv
  obtain ⟨rfl, hsz, hP, hK, hD0⟩ := hv
  have hx := B.exec
  have hb := B.bytes
  have hr := B.returns
  have hts := atoms_spec (ws := sw_k_X9_refuse_1) B.pre
  have hown : s.vm.findClass RX9 = some m.cls := findClass_of_methodNamed B.named
  have hlocks := B.notSynchronized
  subst hsz
  have hD := hD0.self (sz := s.heap.size)
  generalize hAe : va_A [(h0, .inr (9, [.ref h2, .ref h3, .ref h4, .int 0, .ref h5, .ref h6, .ref h7, .ref h8, .ref h9, .ref h10, .ref h11, .ref h1])), (h1, .inl (cI, 7, .inl (fun _ => 0)))] s.heap.size = A at hD ⊢
  have hA : ∀ q : Nat, s.heap.size ≤ q → A q := fun q h => by rw [← hAe]; exact Or.inr h
  have hS : va_S A s.heap s.heap [] := va_S.rf
  have hl := lv_entry ([.ref h0, .int (-4)]) (n := 2) (Nat.le_of_ble_eq_true rfl)
  rw [lg_entry_eq]
  generalize (lg_sl ([.ref h0, .int (-4)]) ++ List.replicate (2 - (lg_sl ([.ref h0, .int (-4)])).length) Slot.unset).toArray = ls at hl ⊢
  have hl : lv_has ls 2 [(0, .ref h0), (1, .int (-4))] := hl
  refine lv_aload_n hx hb dX9_refuse_0 rfl (lv_at hl 0 rfl) ?_
  refine va_get (D := D) (ci := 9) (v := .ref h1) (C := RX9) (T := TX9) (N := 12) hx hb hts iw_k_X9_refuse_1_X9 hown hK hP 0 rfl rfl 11 (by decide) (hts (.fieldLink RX9 90 "TopTurned" "refusals" "[I") (by decide +kernel)) (fun _ h9 => h9) rfl dX9_refuse_1 ?_
  refine lv_iload_n hx hb dX9_refuse_4 rfl (lv_at hl 1 rfl) ?_
  refine lv_ineg hx hb dX9_refuse_5 ?_
  refine kt_eq (y := 4) (by decide +kernel) ?_
  refine lv_dup2_11 hx hb dX9_refuse_6 rfl rfl ?_
  refine va_iald (i := 4) hx hb hK hP 1 1 rfl rfl (vp_in_iff.mpr (by decide)) dX9_refuse_7 ?_
  refine kt_eq (y := 0) (by decide +kernel) ?_
  refine lv_iconst (v := 1) hx hb dX9_refuse_8 (by decide) ?_
  refine lv_iadd hx hb dX9_refuse_9 ?_
  refine kt_eq (y := 1) (by decide +kernel) ?_
  refine va_iast (i := 4) (x := 1) hx hb hK hP hD hS 1 1 rfl rfl (vp_in_iff.mpr (by decide)) dX9_refuse_10 (fun H locs hP hD hS => ?_)
  have hP : va_P D vwCl [(h0, .inr (9, [.ref h2, .ref h3, .ref h4, .int 0, .ref h5, .ref h6, .ref h7, .ref h8, .ref h9, .ref h10, .ref h11, .ref h1])), (h1, .inl (cI, 7, .inl (upd (fun _ => 0) (Int32.toNatClampNeg 4) 1)))] H := hP
  have hD : va_D A [(h0, .inr (9, [.ref h2, .ref h3, .ref h4, .int 0, .ref h5, .ref h6, .ref h7, .ref h8, .ref h9, .ref h10, .ref h11, .ref h1])), (h1, .inl (cI, 7, .inl (upd (fun _ => 0) (Int32.toNatClampNeg 4) 1)))] := hD
  refine lv_iload_n hx hb dX9_refuse_11 rfl (lv_at hl 1 rfl) ?_
  refine W.widen (k := 0) (n := 0) (Nat.le_of_ble_eq_true rfl) (Nat.le_of_ble_eq_true rfl) ?_
  have hP9 := hP.sub (ws' := [(h0, .inr (9, [.ref h2, .ref h3, .ref h4, .int 0, .ref h5, .ref h6, .ref h7, .ref h8, .ref h9, .ref h10, .ref h11, .ref h1])), (h1, .inl (cI, 7, .inl (upd (fun _ => 0) (Int32.toNatClampNeg 4) 1)))]) [0, 1] rfl
  have hD9 := hD.sub (ws' := [(h0, .inr (9, [.ref h2, .ref h3, .ref h4, .int 0, .ref h5, .ref h6, .ref h7, .ref h8, .ref h9, .ref h10, .ref h11, .ref h1])), (h1, .inl (cI, 7, .inl (upd (fun _ => 0) (Int32.toNatClampNeg 4) 1)))]) [0, 1] (by decide) rfl
  exact W.iret (v := (-4)) hx hb hr (fun t ht hW => ⟨⟨(-4), (), rfl, rfl, ⟨by rw [ht]; exact hP9, hD9⟩⟩, hS.F ht⟩) hS.2.2 dX9_refuse_12
def sw_k_X9_letter : List Cond := .code yX9_letter cX9_letter 2 (some .int) :: (([.methodLink RX9 94 yX9_refuse, .instanceMethod yX9_refuse, .selects RX9 yX9_refuse yX9_refuse, .initialized RX9, .fieldLink RX9 10 "TopTurned" "now" "LTopTurned$Told;", .fieldLink RX9 98 "TopTurned$Told" "letterCount" "I", .fieldLink RX9 102 "TopTurned$Told" "letters" "[I"] : List Cond) ++ (sw_k_X9_refuse ++ (wsX90 ++ (wsX60 ++ (sw_k_X9_refuse_1 ++ (([] : List Cond)))))))
theorem gd_k_X9_letter : ∀ w ∈ sw_k_X9_letter, (w.onTables && w.keeps) = true ∨ ∃ ty, w = .arrayClass ty := List.forall_mem_cons.mpr ⟨good_of_word rfl, List.forall_mem_append.mpr ⟨fun w h => good_of_word (List.all_eq_true.mp (by decide +kernel : (([.methodLink RX9 94 yX9_refuse, .instanceMethod yX9_refuse, .selects RX9 yX9_refuse yX9_refuse, .initialized RX9, .fieldLink RX9 10 "TopTurned" "now" "LTopTurned$Told;", .fieldLink RX9 98 "TopTurned$Told" "letterCount" "I", .fieldLink RX9 102 "TopTurned$Told" "letters" "[I"] : List Cond)).all goodWord = true) w h), List.forall_mem_append.mpr ⟨gd_k_X9_refuse, List.forall_mem_append.mpr ⟨gw_X9, List.forall_mem_append.mpr ⟨gw_X6, List.forall_mem_append.mpr ⟨gd_k_X9_refuse_1, fun _ h => absurd h List.not_mem_nil⟩⟩⟩⟩⟩⟩
theorem gc_k_X9_letter_k_X9_refuse : GoodIn sw_k_X9_letter sw_k_X9_refuse := fun w h => ⟨List.mem_cons_of_mem _ (List.mem_append_right _ (List.mem_append_left _ h)), gd_k_X9_refuse w h⟩
theorem iw_k_X9_letter_X9 : ∀ w ∈ wsX90, w ∈ sw_k_X9_letter := fun _ h => List.mem_cons_of_mem _ (List.mem_append_right _ (List.mem_append_right _ (List.mem_append_left _ h)))
theorem iw_k_X9_letter_X6 : ∀ w ∈ wsX60, w ∈ sw_k_X9_letter := fun _ h => List.mem_cons_of_mem _ (List.mem_append_right _ (List.mem_append_right _ (List.mem_append_right _ (List.mem_append_left _ h))))
theorem gc_k_X9_letter_k_X9_refuse_1 : GoodIn sw_k_X9_letter sw_k_X9_refuse_1 := fun w h => ⟨List.mem_cons_of_mem _ (List.mem_append_right _ (List.mem_append_right _ (List.mem_append_right _ (List.mem_append_right _ (List.mem_append_left _ h))))), gd_k_X9_refuse_1 w h⟩
set_option maxHeartbeats 4000000 in
set_option maxRecDepth 100000 in
theorem k_X9_letter (l : Launch) (D : va_G) (cC cI cZ : ClassId) (h0 h1 h2 h3 h4 h5 h6 h7 h8 h9 h10 h11 h12 h13 h14 h15 h16 h17 : Nat) (sz : Nat) (p1 : Int32) : Met l yX9_letter sw_k_X9_letter ({ frames := 4, cells := 0, slots := 0, locals := 200 }) (va_Pc [.ref h0, .int p1] (kPre D cC cI cZ [(h0, .inr (9, [.ref h2, .ref h4, .ref h5, .int 0, .ref h6, .ref h7, .ref h8, .ref h9, .ref h10, .ref h11, .ref h12, .ref h1])), (h1, .inl (cI, 7, .inl (fun _ => 0))), (h2, .inr (6, [.int 0, .ref h13, .ref h14, .int 0, .int 5, .int 9, .int 0, .int 1, .int 0, .int 0, .ref h15, .ref h16, .int 0, .ref h3, .int 0, .ref h17, .int 0])), (h3, .inl (cI, 64, .inl (fun _ => 0)))] sz)) (va_Qi (fun (r : Int32) (_ : Unit) => r = (if 0 ≤ p1 then (if 255 < p1 then (-6) else 1) else (-4))) (fun _ _ => True) (va_A [(h0, .inr (9, [.ref h2, .ref h4, .ref h5, .int 0, .ref h6, .ref h7, .ref h8, .ref h9, .ref h10, .ref h11, .ref h12, .ref h1])), (h1, .inl (cI, 7, .inl (fun _ => 0))), (h2, .inr (6, [.int 0, .ref h13, .ref h14, .int 0, .int 5, .int 9, .int 0, .int 1, .int 0, .int 0, .ref h15, .ref h16, .int 0, .ref h3, .int 0, .ref h17, .int 0])), (h3, .inl (cI, 64, .inl (fun _ => 0)))] sz)) 0 0 (va_A [(h0, .inr (9, [.ref h2, .ref h4, .ref h5, .int 0, .ref h6, .ref h7, .ref h8, .ref h9, .ref h10, .ref h11, .ref h12, .ref h1])), (h1, .inl (cI, 7, .inl (fun _ => 0))), (h2, .inr (6, [.int 0, .ref h13, .ref h14, .int 0, .int 5, .int 9, .int 0, .int 1, .int 0, .int 0, .ref h15, .ref h16, .int 0, .ref h3, .int 0, .ref h17, .int 0])), (h3, .inl (cI, 64, .inl (fun _ => 0)))] sz) := by
  refine Met.ofW (cc := cX9_letter) (maxL := 2) (ret := (some .int)) (by decide) rfl ?_
  intro p e s m args below meth c s₁ B hml hv
  obtain ⟨rfl, hsz, hP, hK, hD0⟩ := hv
  have hx := B.exec
  have hb := B.bytes
  have hr := B.returns
  have hts := atoms_spec (ws := sw_k_X9_letter) B.pre
  have hown : s.vm.findClass RX9 = some m.cls := findClass_of_methodNamed B.named
  have hlocks := B.notSynchronized
  subst hsz
  have hD := hD0.self (sz := s.heap.size)
  generalize hAe : va_A [(h0, .inr (9, [.ref h2, .ref h4, .ref h5, .int 0, .ref h6, .ref h7, .ref h8, .ref h9, .ref h10, .ref h11, .ref h12, .ref h1])), (h1, .inl (cI, 7, .inl (fun _ => 0))), (h2, .inr (6, [.int 0, .ref h13, .ref h14, .int 0, .int 5, .int 9, .int 0, .int 1, .int 0, .int 0, .ref h15, .ref h16, .int 0, .ref h3, .int 0, .ref h17, .int 0])), (h3, .inl (cI, 64, .inl (fun _ => 0)))] s.heap.size = A at hD ⊢
  have hA : ∀ q : Nat, s.heap.size ≤ q → A q := fun q h => by rw [← hAe]; exact Or.inr h
  have hS : va_S A s.heap s.heap [] := va_S.rf
  have hl := lv_entry ([.ref h0, .int p1]) (n := 2) (Nat.le_of_ble_eq_true rfl)
  rw [lg_entry_eq]
  generalize (lg_sl ([.ref h0, .int p1]) ++ List.replicate (2 - (lg_sl ([.ref h0, .int p1])).length) Slot.unset).toArray = ls at hl ⊢
  have hl : lv_has ls 2 [(0, .ref h0), (1, .int p1)] := hl
  refine lv_iload_n hx hb dX9_letter_0 rfl (lv_at hl 1 rfl) ?_
  refine lv_if_ge (tgt := 11) hx hb dX9_letter_1 (by decide) (fun c1 => ?_) (fun c1 => ?_)
  · refine lv_iload_n hx hb dX9_letter_11 rfl (lv_at hl 1 rfl) ?_
    refine lv_sipush (v := 255) hx hb dX9_letter_12 (by decide) ?_
    refine lv_icmp_gt (tgt := 30) hx hb dX9_letter_15 (by decide) (fun c2 => ?_) (fun c2 => ?_)
    · refine lv_aload_n hx hb dX9_letter_30 rfl (lv_at hl 0 rfl) ?_
      refine lv_bipush (v := (-6)) hx hb dX9_letter_31 (by decide) ?_
      have hPc := hP.sub (ws' := [(h0, .inr (9, [.ref h2, .ref h4, .ref h5, .int 0, .ref h6, .ref h7, .ref h8, .ref h9, .ref h10, .ref h11, .ref h12, .ref h1])), (h1, .inl (cI, 7, .inl (fun _ => 0)))]) [0, 1] rfl
      have hDc := hD.sub (ws' := [(h0, .inr (9, [.ref h2, .ref h4, .ref h5, .int 0, .ref h6, .ref h7, .ref h8, .ref h9, .ref h10, .ref h11, .ref h12, .ref h1])), (h1, .inl (cI, 7, .inl (fun _ => 0)))]) [0, 1] (by decide) rfl
      have hFc := va_free (wc := [(h0, .inr (9, [.ref h2, .ref h4, .ref h5, .int 0, .ref h6, .ref h7, .ref h8, .ref h9, .ref h10, .ref h11, .ref h12, .ref h1])), (h1, .inl (cI, 7, .inl (fun _ => 0)))]) hD hS hA [0, 1] rfl
      refine va_calli (va_runV (As := [.int (-6)]) (rest := []) ⟨hx, hb, hml, hown, hts⟩ (k_X9_refuse l D cC cI cZ h0 h1 h2 h4 h5 h6 h7 h8 h9 h10 h11 h12 s.heap.size ) (cwV (C := RX9) 1 hts (goodIn_app (goodIn_of _ (by decide +kernel)) gc_k_X9_letter_k_X9_refuse) rfl rfl rfl (by decide +kernel) ⟨(Nat.le_of_ble_eq_true rfl), (Nat.le_of_ble_eq_true rfl)⟩) (kPreV hK hPc hDc (va_recv hK hPc (ci := 9) (q0 := 0) rfl rfl)) rfl rfl hl.1 rfl (lv_room (Nat.le_of_ble_eq_true rfl)) dX9_letter_33 ⟨(Nat.le_of_ble_eq_true rfl), (Nat.le_of_ble_eq_true rfl)⟩) hS (fun q _ h => hFc q h) hFc (fun r3 u t H1 locs ht hvm hw hB hz1 hk1 hS => ?_)
      obtain ⟨hP1, hD1⟩ := hB
      rw [ht] at hP1
      obtain ⟨hP, hD⟩ := va_join (wr := [(h2, .inr (6, [.int 0, .ref h13, .ref h14, .int 0, .int 5, .int 9, .int 0, .int 1, .int 0, .int 0, .ref h15, .ref h16, .int 0, .ref h3, .int 0, .ref h17, .int 0])), (h3, .inl (cI, 64, .inl (fun _ => 0)))]) (w1 := [(h0, .inr (9, [.ref h2, .ref h4, .ref h5, .int 0, .ref h6, .ref h7, .ref h8, .ref h9, .ref h10, .ref h11, .ref h12, .ref h1])), (h1, .inl (cI, 7, .inl (upd (fun _ => 0) (Int32.toNatClampNeg 6) 1)))]) hP hD [0, 1] [2, 3] rfl rfl (by decide) (by decide) hk1 hFc hP1 hD1
      generalize H1 = H at hP hS ⊢
      have hP : va_P D vwCl [(h2, .inr (6, [.int 0, .ref h13, .ref h14, .int 0, .int 5, .int 9, .int 0, .int 1, .int 0, .int 0, .ref h15, .ref h16, .int 0, .ref h3, .int 0, .ref h17, .int 0])), (h3, .inl (cI, 64, .inl (fun _ => 0))), (h0, .inr (9, [.ref h2, .ref h4, .ref h5, .int 0, .ref h6, .ref h7, .ref h8, .ref h9, .ref h10, .ref h11, .ref h12, .ref h1])), (h1, .inl (cI, 7, .inl (upd (fun _ => 0) (Int32.toNatClampNeg 6) 1)))] H := hP
      have hD : va_D A [(h2, .inr (6, [.int 0, .ref h13, .ref h14, .int 0, .int 5, .int 9, .int 0, .int 1, .int 0, .int 0, .ref h15, .ref h16, .int 0, .ref h3, .int 0, .ref h17, .int 0])), (h3, .inl (cI, 64, .inl (fun _ => 0))), (h0, .inr (9, [.ref h2, .ref h4, .ref h5, .int 0, .ref h6, .ref h7, .ref h8, .ref h9, .ref h10, .ref h11, .ref h12, .ref h1])), (h1, .inl (cI, 7, .inl (upd (fun _ => 0) (Int32.toNatClampNeg 6) 1)))] := hD
      have hw : r3 = (-6) := hw
      subst hw
      refine W.widen (k := 0) (n := 0) (Nat.le_of_ble_eq_true rfl) (Nat.le_of_ble_eq_true rfl) ?_
      exact W.iret (v := (-6)) hx hb hr (fun t ht hW => ⟨⟨(-6), (), rfl, (by rw [if_pos c1, if_pos c2]), trivial⟩, hS.F ht⟩) hS.2.2 dX9_letter_36
    · refine lv_aload_n hx hb dX9_letter_18 rfl (lv_at hl 0 rfl) ?_
      refine va_get (D := D) (ci := 9) (v := .ref h2) (C := RX9) (T := TX9) (N := 12) hx hb hts iw_k_X9_letter_X9 hown hK hP 0 rfl rfl 0 (by decide) (hts (.fieldLink RX9 10 "TopTurned" "now" "LTopTurned$Told;") (by decide +kernel)) (fun _ h9 => h9) rfl dX9_letter_19 ?_
      refine va_get (D := D) (ci := 6) (v := .int 0) (C := RX6) (T := TX6) (N := 17) hx hb hts iw_k_X9_letter_X6 hown hK hP 2 rfl rfl 14 (by decide) (hts (.fieldLink RX9 98 "TopTurned$Told" "letterCount" "I") (by decide +kernel)) (fun _ h9 => h9) rfl dX9_letter_22 ?_
      refine lv_bipush (v := 64) hx hb dX9_letter_25 (by decide) ?_
      refine lv_icmp_lt (tgt := 37) hx hb dX9_letter_27 (by decide) (fun _ => ?_) (fun c => absurd (by decide) c)
      refine lv_aload_n hx hb dX9_letter_37 rfl (lv_at hl 0 rfl) ?_
      refine va_get (D := D) (ci := 9) (v := .ref h2) (C := RX9) (T := TX9) (N := 12) hx hb hts iw_k_X9_letter_X9 hown hK hP 0 rfl rfl 0 (by decide) (hts (.fieldLink RX9 10 "TopTurned" "now" "LTopTurned$Told;") (by decide +kernel)) (fun _ h9 => h9) rfl dX9_letter_38 ?_
      refine va_get (D := D) (ci := 6) (v := .ref h3) (C := RX6) (T := TX6) (N := 17) hx hb hts iw_k_X9_letter_X6 hown hK hP 2 rfl rfl 13 (by decide) (hts (.fieldLink RX9 102 "TopTurned$Told" "letters" "[I") (by decide +kernel)) (fun _ h9 => h9) rfl dX9_letter_41 ?_
      refine lv_aload_n hx hb dX9_letter_44 rfl (lv_at hl 0 rfl) ?_
      refine va_get (D := D) (ci := 9) (v := .ref h2) (C := RX9) (T := TX9) (N := 12) hx hb hts iw_k_X9_letter_X9 hown hK hP 0 rfl rfl 0 (by decide) (hts (.fieldLink RX9 10 "TopTurned" "now" "LTopTurned$Told;") (by decide +kernel)) (fun _ h9 => h9) rfl dX9_letter_45 ?_
      refine va_get (D := D) (ci := 6) (v := .int 0) (C := RX6) (T := TX6) (N := 17) hx hb hts iw_k_X9_letter_X6 hown hK hP 2 rfl rfl 14 (by decide) (hts (.fieldLink RX9 98 "TopTurned$Told" "letterCount" "I") (by decide +kernel)) (fun _ h9 => h9) rfl dX9_letter_48 ?_
      refine lv_iload_n hx hb dX9_letter_51 rfl (lv_at hl 1 rfl) ?_
      refine va_iast (i := 0) (x := p1) hx hb hK hP hD hS 3 1 rfl rfl (vp_in_iff.mpr (by decide)) dX9_letter_52 (fun H locs hP hD hS => ?_)
      have hP : va_P D vwCl [(h0, .inr (9, [.ref h2, .ref h4, .ref h5, .int 0, .ref h6, .ref h7, .ref h8, .ref h9, .ref h10, .ref h11, .ref h12, .ref h1])), (h1, .inl (cI, 7, .inl (fun _ => 0))), (h2, .inr (6, [.int 0, .ref h13, .ref h14, .int 0, .int 5, .int 9, .int 0, .int 1, .int 0, .int 0, .ref h15, .ref h16, .int 0, .ref h3, .int 0, .ref h17, .int 0])), (h3, .inl (cI, 64, .inl (upd (fun _ => 0) (Int32.toNatClampNeg 0) p1)))] H := hP
      have hD : va_D A [(h0, .inr (9, [.ref h2, .ref h4, .ref h5, .int 0, .ref h6, .ref h7, .ref h8, .ref h9, .ref h10, .ref h11, .ref h12, .ref h1])), (h1, .inl (cI, 7, .inl (fun _ => 0))), (h2, .inr (6, [.int 0, .ref h13, .ref h14, .int 0, .int 5, .int 9, .int 0, .int 1, .int 0, .int 0, .ref h15, .ref h16, .int 0, .ref h3, .int 0, .ref h17, .int 0])), (h3, .inl (cI, 64, .inl (upd (fun _ => 0) (Int32.toNatClampNeg 0) p1)))] := hD
      refine lv_aload_n hx hb dX9_letter_53 rfl (lv_at hl 0 rfl) ?_
      refine va_get (D := D) (ci := 9) (v := .ref h2) (C := RX9) (T := TX9) (N := 12) hx hb hts iw_k_X9_letter_X9 hown hK hP 0 rfl rfl 0 (by decide) (hts (.fieldLink RX9 10 "TopTurned" "now" "LTopTurned$Told;") (by decide +kernel)) (fun _ h9 => h9) rfl dX9_letter_54 ?_
      refine lv_dup hx hb dX9_letter_57 rfl ?_
      refine va_get (D := D) (ci := 6) (v := .int 0) (C := RX6) (T := TX6) (N := 17) hx hb hts iw_k_X9_letter_X6 hown hK hP 2 rfl rfl 14 (by decide) (hts (.fieldLink RX9 98 "TopTurned$Told" "letterCount" "I") (by decide +kernel)) (fun _ h9 => h9) rfl dX9_letter_58 ?_
      refine lv_iconst (v := 1) hx hb dX9_letter_61 (by decide) ?_
      refine lv_iadd hx hb dX9_letter_62 ?_
      refine kt_eq (y := 1) (by decide +kernel) ?_
      refine va_put (D := D) (ci := 6) (v := .int 1) (ty := .int) (C := RX6) (T := TX6) (N := 17) hx hb hts iw_k_X9_letter_X6 tyX6 tyX6_ok nmX6 hown hK hP hD hS 2 rfl rfl 14 (by decide) (hts (.fieldLink RX9 98 "TopTurned$Told" "letterCount" "I") (by decide +kernel)) (fun _ h9 => h9) rfl (by decide +kernel) rfl rfl (Nat.le_of_ble_eq_true rfl) dX9_letter_63 (fun H locs hP hD hS => ?_)
      have hP : va_P D vwCl [(h0, .inr (9, [.ref h2, .ref h4, .ref h5, .int 0, .ref h6, .ref h7, .ref h8, .ref h9, .ref h10, .ref h11, .ref h12, .ref h1])), (h1, .inl (cI, 7, .inl (fun _ => 0))), (h2, .inr (6, [.int 0, .ref h13, .ref h14, .int 0, .int 5, .int 9, .int 0, .int 1, .int 0, .int 0, .ref h15, .ref h16, .int 0, .ref h3, .int 1, .ref h17, .int 0])), (h3, .inl (cI, 64, .inl (upd (fun _ => 0) (Int32.toNatClampNeg 0) p1)))] H := hP
      have hD : va_D A [(h0, .inr (9, [.ref h2, .ref h4, .ref h5, .int 0, .ref h6, .ref h7, .ref h8, .ref h9, .ref h10, .ref h11, .ref h12, .ref h1])), (h1, .inl (cI, 7, .inl (fun _ => 0))), (h2, .inr (6, [.int 0, .ref h13, .ref h14, .int 0, .int 5, .int 9, .int 0, .int 1, .int 0, .int 0, .ref h15, .ref h16, .int 0, .ref h3, .int 1, .ref h17, .int 0])), (h3, .inl (cI, 64, .inl (upd (fun _ => 0) (Int32.toNatClampNeg 0) p1)))] := hD
      refine lv_aload_n hx hb dX9_letter_66 rfl (lv_at hl 0 rfl) ?_
      refine va_get (D := D) (ci := 9) (v := .ref h2) (C := RX9) (T := TX9) (N := 12) hx hb hts iw_k_X9_letter_X9 hown hK hP 0 rfl rfl 0 (by decide) (hts (.fieldLink RX9 10 "TopTurned" "now" "LTopTurned$Told;") (by decide +kernel)) (fun _ h9 => h9) rfl dX9_letter_67 ?_
      refine va_get (D := D) (ci := 6) (v := .int 1) (C := RX6) (T := TX6) (N := 17) hx hb hts iw_k_X9_letter_X6 hown hK hP 2 rfl rfl 14 (by decide) (hts (.fieldLink RX9 98 "TopTurned$Told" "letterCount" "I") (by decide +kernel)) (fun _ h9 => h9) rfl dX9_letter_70 ?_
      refine W.widen (k := 0) (n := 0) (Nat.le_of_ble_eq_true rfl) (Nat.le_of_ble_eq_true rfl) ?_
      exact W.iret (v := 1) hx hb hr (fun t ht hW => ⟨⟨1, (), rfl, (by rw [if_pos c1, if_neg c2]), trivial⟩, hS.F ht⟩) hS.2.2 dX9_letter_73
  · refine lv_aload_n hx hb dX9_letter_4 rfl (lv_at hl 0 rfl) ?_
    refine lv_bipush (v := (-4)) hx hb dX9_letter_5 (by decide) ?_
    have hPc := hP.sub (ws' := [(h0, .inr (9, [.ref h2, .ref h4, .ref h5, .int 0, .ref h6, .ref h7, .ref h8, .ref h9, .ref h10, .ref h11, .ref h12, .ref h1])), (h1, .inl (cI, 7, .inl (fun _ => 0)))]) [0, 1] rfl
    have hDc := hD.sub (ws' := [(h0, .inr (9, [.ref h2, .ref h4, .ref h5, .int 0, .ref h6, .ref h7, .ref h8, .ref h9, .ref h10, .ref h11, .ref h12, .ref h1])), (h1, .inl (cI, 7, .inl (fun _ => 0)))]) [0, 1] (by decide) rfl
    have hFc := va_free (wc := [(h0, .inr (9, [.ref h2, .ref h4, .ref h5, .int 0, .ref h6, .ref h7, .ref h8, .ref h9, .ref h10, .ref h11, .ref h12, .ref h1])), (h1, .inl (cI, 7, .inl (fun _ => 0)))]) hD hS hA [0, 1] rfl
    refine va_calli (va_runV (As := [.int (-4)]) (rest := []) ⟨hx, hb, hml, hown, hts⟩ (k_X9_refuse_1 l D cC cI cZ h0 h1 h2 h4 h5 h6 h7 h8 h9 h10 h11 h12 s.heap.size ) (cwV (C := RX9) 1 hts (goodIn_app (goodIn_of _ (by decide +kernel)) gc_k_X9_letter_k_X9_refuse_1) rfl rfl rfl (by decide +kernel) ⟨(Nat.le_of_ble_eq_true rfl), (Nat.le_of_ble_eq_true rfl)⟩) (kPreV hK hPc hDc (va_recv hK hPc (ci := 9) (q0 := 0) rfl rfl)) rfl rfl hl.1 rfl (lv_room (Nat.le_of_ble_eq_true rfl)) dX9_letter_7 ⟨(Nat.le_of_ble_eq_true rfl), (Nat.le_of_ble_eq_true rfl)⟩) hS (fun q _ h => hFc q h) hFc (fun r4 u t H1 locs ht hvm hw hB hz1 hk1 hS => ?_)
    obtain ⟨hP1, hD1⟩ := hB
    rw [ht] at hP1
    obtain ⟨hP, hD⟩ := va_join (wr := [(h2, .inr (6, [.int 0, .ref h13, .ref h14, .int 0, .int 5, .int 9, .int 0, .int 1, .int 0, .int 0, .ref h15, .ref h16, .int 0, .ref h3, .int 0, .ref h17, .int 0])), (h3, .inl (cI, 64, .inl (fun _ => 0)))]) (w1 := [(h0, .inr (9, [.ref h2, .ref h4, .ref h5, .int 0, .ref h6, .ref h7, .ref h8, .ref h9, .ref h10, .ref h11, .ref h12, .ref h1])), (h1, .inl (cI, 7, .inl (upd (fun _ => 0) (Int32.toNatClampNeg 4) 1)))]) hP hD [0, 1] [2, 3] rfl rfl (by decide) (by decide) hk1 hFc hP1 hD1
    generalize H1 = H at hP hS ⊢
    have hP : va_P D vwCl [(h2, .inr (6, [.int 0, .ref h13, .ref h14, .int 0, .int 5, .int 9, .int 0, .int 1, .int 0, .int 0, .ref h15, .ref h16, .int 0, .ref h3, .int 0, .ref h17, .int 0])), (h3, .inl (cI, 64, .inl (fun _ => 0))), (h0, .inr (9, [.ref h2, .ref h4, .ref h5, .int 0, .ref h6, .ref h7, .ref h8, .ref h9, .ref h10, .ref h11, .ref h12, .ref h1])), (h1, .inl (cI, 7, .inl (upd (fun _ => 0) (Int32.toNatClampNeg 4) 1)))] H := hP
    have hD : va_D A [(h2, .inr (6, [.int 0, .ref h13, .ref h14, .int 0, .int 5, .int 9, .int 0, .int 1, .int 0, .int 0, .ref h15, .ref h16, .int 0, .ref h3, .int 0, .ref h17, .int 0])), (h3, .inl (cI, 64, .inl (fun _ => 0))), (h0, .inr (9, [.ref h2, .ref h4, .ref h5, .int 0, .ref h6, .ref h7, .ref h8, .ref h9, .ref h10, .ref h11, .ref h12, .ref h1])), (h1, .inl (cI, 7, .inl (upd (fun _ => 0) (Int32.toNatClampNeg 4) 1)))] := hD
    have hw : r4 = (-4) := hw
    subst hw
    refine W.widen (k := 0) (n := 0) (Nat.le_of_ble_eq_true rfl) (Nat.le_of_ble_eq_true rfl) ?_
    exact W.iret (v := (-4)) hx hb hr (fun t ht hW => ⟨⟨(-4), (), rfl, (by rw [if_neg c1]), trivial⟩, hS.F ht⟩) hS.2.2 dX9_letter_10
