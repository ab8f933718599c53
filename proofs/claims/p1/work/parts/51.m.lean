def sw_k_X10_no : List Cond := .code yX10_no cX10_no 2 (some .int) :: (([.fieldLink RX10 7 "TopTurnedModel" "refused" "[I"] : List Cond) ++ (wsX100 ++ (([] : List Cond))))
theorem gd_k_X10_no : ∀ w ∈ sw_k_X10_no, (w.onTables && w.keeps) = true ∨ ∃ ty, w = .arrayClass ty := List.forall_mem_cons.mpr ⟨good_of_word rfl, List.forall_mem_append.mpr ⟨fun w h => good_of_word (List.all_eq_true.mp (by decide +kernel : (([.fieldLink RX10 7 "TopTurnedModel" "refused" "[I"] : List Cond)).all goodWord = true) w h), List.forall_mem_append.mpr ⟨gw_X10, fun _ h => absurd h List.not_mem_nil⟩⟩⟩
theorem iw_k_X10_no_X10 : ∀ w ∈ wsX100, w ∈ sw_k_X10_no := fun _ h => List.mem_cons_of_mem _ (List.mem_append_right _ (List.mem_append_left _ h))
set_option maxHeartbeats 4000000 in
set_option maxRecDepth 100000 in
theorem k_X10_no (l : Launch) (D : va_G) (cC cI cZ : ClassId) (h0 h1 h2 h3 h4 h5 h6 h7 h8 h9 h10 h11 h12 h13 h14 h15 h16 h17 h18 h19 h20 h21 h22 h23 h24 h25 : Nat) (sz : Nat) : Met l yX10_no sw_k_X10_no ({ frames := 2, cells := 0, slots := 0, locals := 100 }) (va_Pc [.ref h0, .int (-6)] (kPre D cC cI cZ [(h0, .inr (10, [.ref h1, .ref h2, .ref h3, .ref h4, .ref h5, .ref h6, .ref h7, .int 0, .ref h8, .ref h9, .ref h10, .ref h11, .ref h12, .ref h13, .ref h14, .int 0, .int 0, .int 0, .ref h15, .ref h16, .int 0, .int 0, .int 0, .ref h17, .ref h18, .ref h19, .ref h20, .ref h21, .ref h22, .ref h23, .int 0, .ref h24, .int 0, .ref h25])), (h1, .inl (cI, 7, .inl (fun _ => 0)))] sz)) (va_Qi (fun (r : Int32) (_ : Unit) => r = (-6)) (fun _ t => va_P D vwCl [(h0, .inr (10, [.ref h1, .ref h2, .ref h3, .ref h4, .ref h5, .ref h6, .ref h7, .int 0, .ref h8, .ref h9, .ref h10, .ref h11, .ref h12, .ref h13, .ref h14, .int 0, .int 0, .int 0, .ref h15, .ref h16, .int 0, .int 0, .int 0, .ref h17, .ref h18, .ref h19, .ref h20, .ref h21, .ref h22, .ref h23, .int 0, .ref h24, .int 0, .ref h25])), (h1, .inl (cI, 7, .inl (upd (fun _ => 0) (Int32.toNatClampNeg 6) 1)))] t.heap ∧ va_D (va_A [(h0, .inr (10, [.ref h1, .ref h2, .ref h3, .ref h4, .ref h5, .ref h6, .ref h7, .int 0, .ref h8, .ref h9, .ref h10, .ref h11, .ref h12, .ref h13, .ref h14, .int 0, .int 0, .int 0, .ref h15, .ref h16, .int 0, .int 0, .int 0, .ref h17, .ref h18, .ref h19, .ref h20, .ref h21, .ref h22, .ref h23, .int 0, .ref h24, .int 0, .ref h25])), (h1, .inl (cI, 7, .inl (fun _ => 0)))] sz) [(h0, .inr (10, [.ref h1, .ref h2, .ref h3, .ref h4, .ref h5, .ref h6, .ref h7, .int 0, .ref h8, .ref h9, .ref h10, .ref h11, .ref h12, .ref h13, .ref h14, .int 0, .int 0, .int 0, .ref h15, .ref h16, .int 0, .int 0, .int 0, .ref h17, .ref h18, .ref h19, .ref h20, .ref h21, .ref h22, .ref h23, .int 0, .ref h24, .int 0, .ref h25])), (h1, .inl (cI, 7, .inl (upd (fun _ => 0) (Int32.toNatClampNeg 6) 1)))]) (va_A [(h0, .inr (10, [.ref h1, .ref h2, .ref h3, .ref h4, .ref h5, .ref h6, .ref h7, .int 0, .ref h8, .ref h9, .ref h10, .ref h11, .ref h12, .ref h13, .ref h14, .int 0, .int 0, .int 0, .ref h15, .ref h16, .int 0, .int 0, .int 0, .ref h17, .ref h18, .ref h19, .ref h20, .ref h21, .ref h22, .ref h23, .int 0, .ref h24, .int 0, .ref h25])), (h1, .inl (cI, 7, .inl (fun _ => 0)))] sz)) 0 0 (va_A [(h0, .inr (10, [.ref h1, .ref h2, .ref h3, .ref h4, .ref h5, .ref h6, .ref h7, .int 0, .ref h8, .ref h9, .ref h10, .ref h11, .ref h12, .ref h13, .ref h14, .int 0, .int 0, .int 0, .ref h15, .ref h16, .int 0, .int 0, .int 0, .ref h17, .ref h18, .ref h19, .ref h20, .ref h21, .ref h22, .ref h23, .int 0, .ref h24, .int 0, .ref h25])), (h1, .inl (cI, 7, .inl (fun _ => 0)))] sz) := by
  refine Met.ofW (cc := cX10_no) (maxL := 2) (ret := (some .int)) (by decide) rfl ?_
  intro p e s m args below meth c s₁ B hml hv
  obtain ⟨rfl, hsz, hP, hK, hD0⟩ := hv
  have hx := B.exec
  have hb := B.bytes
  have hr := B.returns
  have hts := atoms_spec (ws := sw_k_X10_no) B.pre
  have hown : s.vm.findClass RX10 = some m.cls := findClass_of_methodNamed B.named
  have hlocks := B.notSynchronized
  subst hsz
  have hD := hD0.self (sz := s.heap.size)
  generalize hAe : va_A [(h0, .inr (10, [.ref h1, .ref h2, .ref h3, .ref h4, .ref h5, .ref h6, .ref h7, .int 0, .ref h8, .ref h9, .ref h10, .ref h11, .ref h12, .ref h13, .ref h14, .int 0, .int 0, .int 0, .ref h15, .ref h16, .int 0, .int 0, .int 0, .ref h17, .ref h18, .ref h19, .ref h20, .ref h21, .ref h22, .ref h23, .int 0, .ref h24, .int 0, .ref h25])), (h1, .inl (cI, 7, .inl (fun _ => 0)))] s.heap.size = A at hD ⊢
  have hA : ∀ q : Nat, s.heap.size ≤ q → A q := fun q h => by rw [← hAe]; exact Or.inr h
  have hS : va_S A s.heap s.heap [] := va_S.rf
  have hl := lv_entry ([.ref h0, .int (-6)]) (n := 2) (Nat.le_of_ble_eq_true rfl)
  rw [lg_entry_eq]
  generalize (lg_sl ([.ref h0, .int (-6)]) ++ List.replicate (2 - (lg_sl ([.ref h0, .int (-6)])).length) Slot.unset).toArray = ls at hl ⊢
  have hl : lv_has ls 2 [(0, .ref h0), (1, .int (-6))] := hl
  refine lv_aload_n hx hb dX10_no_0 rfl (lv_at hl 0 rfl) ?_
  refine va_get (D := D) (ci := 10) (v := .ref h1) (C := RX10) (T := TX10) (N := 34) hx hb hts iw_k_X10_no_X10 hown hK hP 0 rfl rfl 0 (by decide) (hts (.fieldLink RX10 7 "TopTurnedModel" "refused" "[I") (by decide +kernel)) (fun _ h9 => h9) rfl dX10_no_1 ?_
  refine lv_iload_n hx hb dX10_no_4 rfl (lv_at hl 1 rfl) ?_
  refine lv_ineg hx hb dX10_no_5 ?_
  refine kt_eq (y := 6) (by decide +kernel) ?_
  refine lv_dup2_11 hx hb dX10_no_6 rfl rfl ?_
  refine va_iald (i := 6) hx hb hK hP 1 1 rfl rfl (vp_in_iff.mpr (by decide)) dX10_no_7 ?_
  refine kt_eq (y := 0) (by decide +kernel) ?_
  refine lv_iconst (v := 1) hx hb dX10_no_8 (by decide) ?_
  refine lv_iadd hx hb dX10_no_9 ?_
  refine kt_eq (y := 1) (by decide +kernel) ?_
  refine va_iast (i := 6) (x := 1) hx hb hK hP hD hS 1 1 rfl rfl (vp_in_iff.mpr (by decide)) dX10_no_10 (fun H locs hP hD hS => ?_)
  have hP : va_P D vwCl [(h0, .inr (10, [.ref h1, .ref h2, .ref h3, .ref h4, .ref h5, .ref h6, .ref h7, .int 0, .ref h8, .ref h9, .ref h10, .ref h11, .ref h12, .ref h13, .ref h14, .int 0, .int 0, .int 0, .ref h15, .ref h16, .int 0, .int 0, .int 0, .ref h17, .ref h18, .ref h19, .ref h20, .ref h21, .ref h22, .ref h23, .int 0, .ref h24, .int 0, .ref h25])), (h1, .inl (cI, 7, .inl (upd (fun _ => 0) (Int32.toNatClampNeg 6) 1)))] H := hP
  have hD : va_D A [(h0, .inr (10, [.ref h1, .ref h2, .ref h3, .ref h4, .ref h5, .ref h6, .ref h7, .int 0, .ref h8, .ref h9, .ref h10, .ref h11, .ref h12, .ref h13, .ref h14, .int 0, .int 0, .int 0, .ref h15, .ref h16, .int 0, .int 0, .int 0, .ref h17, .ref h18, .ref h19, .ref h20, .ref h21, .ref h22, .ref h23, .int 0, .ref h24, .int 0, .ref h25])), (h1, .inl (cI, 7, .inl (upd (fun _ => 0) (Int32.toNatClampNeg 6) 1)))] := hD
  refine lv_iload_n hx hb dX10_no_11 rfl (lv_at hl 1 rfl) ?_
  refine W.widen (k := 0) (n := 0) (Nat.le_of_ble_eq_true rfl) (Nat.le_of_ble_eq_true rfl) ?_
  have hP9 := hP.sub (ws' := [(h0, .inr (10, [.ref h1, .ref h2, .ref h3, .ref h4, .ref h5, .ref h6, .ref h7, .int 0, .ref h8, .ref h9, .ref h10, .ref h11, .ref h12, .ref h13, .ref h14, .int 0, .int 0, .int 0, .ref h15, .ref h16, .int 0, .int 0, .int 0, .ref h17, .ref h18, .ref h19, .ref h20, .ref h21, .ref h22, .ref h23, .int 0, .ref h24, .int 0, .ref h25])), (h1, .inl (cI, 7, .inl (upd (fun _ => 0) (Int32.toNatClampNeg 6) 1)))]) [0, 1] rfl
  have hD9 := hD.sub (ws' := [(h0, .inr (10, [.ref h1, .ref h2, .ref h3, .ref h4, .ref h5, .ref h6, .ref h7, .int 0, .ref h8, .ref h9, .ref h10, .ref h11, .ref h12, .ref h13, .ref h14, .int 0, .int 0, .int 0, .ref h15, .ref h16, .int 0, .int 0, .int 0, .ref h17, .ref h18, .ref h19, .ref h20, .ref h21, .ref h22, .ref h23, .int 0, .ref h24, .int 0, .ref h25])), (h1, .inl (cI, 7, .inl (upd (fun _ => 0) (Int32.toNatClampNeg 6) 1)))]) [0, 1] (by decide) rfl
  exact W.iret (v := (-6)) hx hb hr (fun t ht hW => ⟨⟨(-6), (), rfl, rfl, ⟨by rw [ht]; exact hP9, hD9⟩⟩, hS.F ht⟩) hS.2.2 dX10_no_12
def sw_k_X10_no_1 : List Cond := .code yX10_no cX10_no 2 (some .int) :: (([.fieldLink RX10 7 "TopTurnedModel" "refused" "[I"] : List Cond) ++ (wsX100 ++ (([] : List Cond))))
theorem gd_k_X10_no_1 : ∀ w ∈ sw_k_X10_no_1, (w.onTables && w.keeps) = true ∨ ∃ ty, w = .arrayClass ty := List.forall_mem_cons.mpr ⟨good_of_word rfl, List.forall_mem_append.mpr ⟨fun w h => good_of_word (List.all_eq_true.mp (by decide +kernel : (([.fieldLink RX10 7 "TopTurnedModel" "refused" "[I"] : List Cond)).all goodWord = true) w h), List.forall_mem_append.mpr ⟨gw_X10, fun _ h => absurd h List.not_mem_nil⟩⟩⟩
theorem iw_k_X10_no_1_X10 : ∀ w ∈ wsX100, w ∈ sw_k_X10_no_1 := fun _ h => List.mem_cons_of_mem _ (List.mem_append_right _ (List.mem_append_left _ h))
set_option maxHeartbeats 4000000 in
set_option maxRecDepth 100000 in
theorem k_X10_no_1 (l : Launch) (D : va_G) (cC cI cZ : ClassId) (h0 h1 h2 h3 h4 h5 h6 h7 h8 h9 h10 h11 h12 h13 h14 h15 h16 h17 h18 h19 h20 h21 h22 h23 h24 h25 : Nat) (sz : Nat) : Met l yX10_no sw_k_X10_no_1 ({ frames := 2, cells := 0, slots := 0, locals := 100 }) (va_Pc [.ref h0, .int (-4)] (kPre D cC cI cZ [(h0, .inr (10, [.ref h1, .ref h2, .ref h3, .ref h4, .ref h5, .ref h6, .ref h7, .int 0, .ref h8, .ref h9, .ref h10, .ref h11, .ref h12, .ref h13, .ref h14, .int 0, .int 0, .int 0, .ref h15, .ref h16, .int 0, .int 0, .int 0, .ref h17, .ref h18, .ref h19, .ref h20, .ref h21, .ref h22, .ref h23, .int 0, .ref h24, .int 0, .ref h25])), (h1, .inl (cI, 7, .inl (fun _ => 0)))] sz)) (va_Qi (fun (r : Int32) (_ : Unit) => r = (-4)) (fun _ t => va_P D vwCl [(h0, .inr (10, [.ref h1, .ref h2, .ref h3, .ref h4, .ref h5, .ref h6, .ref h7, .int 0, .ref h8, .ref h9, .ref h10, .ref h11, .ref h12, .ref h13, .ref h14, .int 0, .int 0, .int 0, .ref h15, .ref h16, .int 0, .int 0, .int 0, .ref h17, .ref h18, .ref h19, .ref h20, .ref h21, .ref h22, .ref h23, .int 0, .ref h24, .int 0, .ref h25])), (h1, .inl (cI, 7, .inl (upd (fun _ => 0) (Int32.toNatClampNeg 4) 1)))] t.heap ∧ va_D (va_A [(h0, .inr (10, [.ref h1, .ref h2, .ref h3, .ref h4, .ref h5, .ref h6, .ref h7, .int 0, .ref h8, .ref h9, .ref h10, .ref h11, .ref h12, .ref h13, .ref h14, .int 0, .int 0, .int 0, .ref h15, .ref h16, .int 0, .int 0, .int 0, .ref h17, .ref h18, .ref h19, .ref h20, .ref h21, .ref h22, .ref h23, .int 0, .ref h24, .int 0, .ref h25])), (h1, .inl (cI, 7, .inl (fun _ => 0)))] sz) [(h0, .inr (10, [.ref h1, .ref h2, .ref h3, .ref h4, .ref h5, .ref h6, .ref h7, .int 0, .ref h8, .ref h9, .ref h10, .ref h11, .ref h12, .ref h13, .ref h14, .int 0, .int 0, .int 0, .ref h15, .ref h16, .int 0, .int 0, .int 0, .ref h17, .ref h18, .ref h19, .ref h20, .ref h21, .ref h22, .ref h23, .int 0, .ref h24, .int 0, .ref h25])), (h1, .inl (cI, 7, .inl (upd (fun _ => 0) (Int32.toNatClampNeg 4) 1)))]) (va_A [(h0, .inr (10, [.ref h1, .ref h2, .ref h3, .ref h4, .ref h5, .ref h6, .ref h7, .int 0, .ref h8, .ref h9, .ref h10, .ref h11, .ref h12, .ref h13, .ref h14, .int 0, .int 0, .int 0, .ref h15, .ref h16, .int 0, .int 0, .int 0, .ref h17, .ref h18, .ref h19, .ref h20, .ref h21, .ref h22, .ref h23, .int 0, .ref h24, .int 0, .ref h25])), (h1, .inl (cI, 7, .inl (fun _ => 0)))] sz)) 0 0 (va_A [(h0, .inr (10, [.ref h1, .ref h2, .ref h3, .ref h4, .ref h5, .ref h6, .ref h7, .int 0, .ref h8, .ref h9, .ref h10, .ref h11, .ref h12, .ref h13, .ref h14, .int 0, .int 0, .int 0, .ref h15, .ref h16, .int 0, .int 0, .int 0, .ref h17, .ref h18, .ref h19, .ref h20, .ref h21, .ref h22, .ref h23, .int 0, .ref h24, .int 0, .ref h25])), (h1, .inl (cI, 7, .inl (fun _ => 0)))] sz) := by
  refine Met.ofW (cc := cX10_no) (maxL := 2) (ret := (some .int)) (by decide) rfl ?_
  intro p e s m args below meth c s₁ B hml hv
  obtain ⟨rfl, hsz, hP, hK, hD0⟩ := hv
  have hx := B.exec
  have hb := B.bytes
  have hr := B.returns
  have hts := atoms_spec (ws := sw_k_X10_no_1) B.pre
  have hown : s.vm.findClass RX10 = some m.cls := findClass_of_methodNamed B.named
  have hlocks := B.notSynchronized
  subst hsz
  have hD := hD0.self (sz := s.heap.size)
  generalize hAe : va_A [(h0, .inr (10, [.ref h1, .ref h2, .ref h3, .ref h4, .ref h5, .ref h6, .ref h7, .int 0, .ref h8, .ref h9, .ref h10, .ref h11, .ref h12, .ref h13, .ref h14, .int 0, .int 0, .int 0, .ref h15, .ref h16, .int 0, .int 0, .int 0, .ref h17, .ref h18, .ref h19, .ref h20, .ref h21, .ref h22, .ref h23, .int 0, .ref h24, .int 0, .ref h25])), (h1, .inl (cI, 7, .inl (fun _ => 0)))] s.heap.size = A at hD ⊢
  have hA : ∀ q : Nat, s.heap.size ≤ q → A q := fun q h => by rw [← hAe]; exact Or.inr h
  have hS : va_S A s.heap s.heap [] := va_S.rf
  have hl := lv_entry ([.ref h0, .int (-4)]) (n := 2) (Nat.le_of_ble_eq_true rfl)
  rw [lg_entry_eq]
  generalize (lg_sl ([.ref h0, .int (-4)]) ++ List.replicate (2 - (lg_sl ([.ref h0, .int (-4)])).length) Slot.unset).toArray = ls at hl ⊢
  have hl : lv_has ls 2 [(0, .ref h0), (1, .int (-4))] := hl
  refine lv_aload_n hx hb dX10_no_0 rfl (lv_at hl 0 rfl) ?_
  refine va_get (D := D) (ci := 10) (v := .ref h1) (C := RX10) (T := TX10) (N := 34) hx hb hts iw_k_X10_no_1_X10 hown hK hP 0 rfl rfl 0 (by decide) (hts (.fieldLink RX10 7 "TopTurnedModel" "refused" "[I") (by decide +kernel)) (fun _ h9 => h9) rfl dX10_no_1 ?_
  refine lv_iload_n hx hb dX10_no_4 rfl (lv_at hl 1 rfl) ?_
  refine lv_ineg hx hb dX10_no_5 ?_
  refine kt_eq (y := 4) (by decide +kernel) ?_
  refine lv_dup2_11 hx hb dX10_no_6 rfl rfl ?_
  refine va_iald (i := 4) hx hb hK hP 1 1 rfl rfl (vp_in_iff.mpr (by decide)) dX10_no_7 ?_
  refine kt_eq (y := 0) (by decide +kernel) ?_
  refine lv_iconst (v := 1) hx hb dX10_no_8 (by decide) ?_
  refine lv_iadd hx hb dX10_no_9 ?_
  refine kt_eq (y := 1) (by decide +kernel) ?_
  refine va_iast (i := 4) (x := 1) hx hb hK hP hD hS 1 1 rfl rfl (vp_in_iff.mpr (by decide)) dX10_no_10 (fun H locs hP hD hS => ?_)
  have hP : va_P D vwCl [(h0, .inr (10, [.ref h1, .ref h2, .ref h3, .ref h4, .ref h5, .ref h6, .ref h7, .int 0, .ref h8, .ref h9, .ref h10, .ref h11, .ref h12, .ref h13, .ref h14, .int 0, .int 0, .int 0, .ref h15, .ref h16, .int 0, .int 0, .int 0, .ref h17, .ref h18, .ref h19, .ref h20, .ref h21, .ref h22, .ref h23, .int 0, .ref h24, .int 0, .ref h25])), (h1, .inl (cI, 7, .inl (upd (fun _ => 0) (Int32.toNatClampNeg 4) 1)))] H := hP
  have hD : va_D A [(h0, .inr (10, [.ref h1, .ref h2, .ref h3, .ref h4, .ref h5, .ref h6, .ref h7, .int 0, .ref h8, .ref h9, .ref h10, .ref h11, .ref h12, .ref h13, .ref h14, .int 0, .int 0, .int 0, .ref h15, .ref h16, .int 0, .int 0, .int 0, .ref h17, .ref h18, .ref h19, .ref h20, .ref h21, .ref h22, .ref h23, .int 0, .ref h24, .int 0, .ref h25])), (h1, .inl (cI, 7, .inl (upd (fun _ => 0) (Int32.toNatClampNeg 4) 1)))] := hD
  refine lv_iload_n hx hb dX10_no_11 rfl (lv_at hl 1 rfl) ?_
  refine W.widen (k := 0) (n := 0) (Nat.le_of_ble_eq_true rfl) (Nat.le_of_ble_eq_true rfl) ?_
  have hP9 := hP.sub (ws' := [(h0, .inr (10, [.ref h1, .ref h2, .ref h3, .ref h4, .ref h5, .ref h6, .ref h7, .int 0, .ref h8, .ref h9, .ref h10, .ref h11, .ref h12, .ref h13, .ref h14, .int 0, .int 0, .int 0, .ref h15, .ref h16, .int 0, .int 0, .int 0, .ref h17, .ref h18, .ref h19, .ref h20, .ref h21, .ref h22, .ref h23, .int 0, .ref h24, .int 0, .ref h25])), (h1, .inl (cI, 7, .inl (upd (fun _ => 0) (Int32.toNatClampNeg 4) 1)))]) [0, 1] rfl
  have hD9 := hD.sub (ws' := [(h0, .inr (10, [.ref h1, .ref h2, .ref h3, .ref h4, .ref h5, .ref h6, .ref h7, .int 0, .ref h8, .ref h9, .ref h10, .ref h11, .ref h12, .ref h13, .ref h14, .int 0, .int 0, .int 0, .ref h15, .ref h16, .int 0, .int 0, .int 0, .ref h17, .ref h18, .ref h19, .ref h20, .ref h21, .ref h22, .ref h23, .int 0, .ref h24, .int 0, .ref h25])), (h1, .inl (cI, 7, .inl (upd (fun _ => 0) (Int32.toNatClampNeg 4) 1)))]) [0, 1] (by decide) rfl
  exact W.iret (v := (-4)) hx hb hr (fun t ht hW => ⟨⟨(-4), (), rfl, rfl, ⟨by rw [ht]; exact hP9, hD9⟩⟩, hS.F ht⟩) hS.2.2 dX10_no_12
def sw_k_X10_letter : List Cond := .code yX10_letter cX10_letter 2 (some .int) :: (([.methodLink RX10 94 yX10_no, .instanceMethod yX10_no, .selects RX10 yX10_no yX10_no, .initialized RX10, .fieldLink RX10 98 "TopTurnedModel" "taped" "I", .fieldLink RX10 49 "TopTurnedModel" "tape" "[I"] : List Cond) ++ (sw_k_X10_no ++ (wsX100 ++ (sw_k_X10_no_1 ++ (([] : List Cond))))))
theorem gd_k_X10_letter : ∀ w ∈ sw_k_X10_letter, (w.onTables && w.keeps) = true ∨ ∃ ty, w = .arrayClass ty := List.forall_mem_cons.mpr ⟨good_of_word rfl, List.forall_mem_append.mpr ⟨fun w h => good_of_word (List.all_eq_true.mp (by decide +kernel : (([.methodLink RX10 94 yX10_no, .instanceMethod yX10_no, .selects RX10 yX10_no yX10_no, .initialized RX10, .fieldLink RX10 98 "TopTurnedModel" "taped" "I", .fieldLink RX10 49 "TopTurnedModel" "tape" "[I"] : List Cond)).all goodWord = true) w h), List.forall_mem_append.mpr ⟨gd_k_X10_no, List.forall_mem_append.mpr ⟨gw_X10, List.forall_mem_append.mpr ⟨gd_k_X10_no_1, fun _ h => absurd h List.not_mem_nil⟩⟩⟩⟩⟩
theorem gc_k_X10_letter_k_X10_no : GoodIn sw_k_X10_letter sw_k_X10_no := fun w h => ⟨List.mem_cons_of_mem _ (List.mem_append_right _ (List.mem_append_left _ h)), gd_k_X10_no w h⟩
theorem iw_k_X10_letter_X10 : ∀ w ∈ wsX100, w ∈ sw_k_X10_letter := fun _ h => List.mem_cons_of_mem _ (List.mem_append_right _ (List.mem_append_right _ (List.mem_append_left _ h)))
theorem gc_k_X10_letter_k_X10_no_1 : GoodIn sw_k_X10_letter sw_k_X10_no_1 := fun w h => ⟨List.mem_cons_of_mem _ (List.mem_append_right _ (List.mem_append_right _ (List.mem_append_right _ (List.mem_append_left _ h)))), gd_k_X10_no_1 w h⟩
set_option maxHeartbeats 4000000 in
set_option maxRecDepth 100000 in
theorem k_X10_letter (l : Launch) (D : va_G) (cC cI cZ : ClassId) (h0 h1 h2 h3 h4 h5 h6 h7 h8 h9 h10 h11 h12 h13 h14 h15 h16 h17 h18 h19 h20 h21 h22 h23 h24 h25 : Nat) (sz : Nat) (p1 : Int32) : Met l yX10_letter sw_k_X10_letter ({ frames := 4, cells := 0, slots := 0, locals := 200 }) (va_Pc [.ref h0, .int p1] (kPre D cC cI cZ [(h0, .inr (10, [.ref h1, .ref h3, .ref h4, .ref h5, .ref h6, .ref h7, .ref h8, .int 0, .ref h9, .ref h10, .ref h11, .ref h12, .ref h13, .ref h14, .ref h2, .int 0, .int 0, .int 0, .ref h15, .ref h16, .int 0, .int 0, .int 0, .ref h17, .ref h18, .ref h19, .ref h20, .ref h21, .ref h22, .ref h23, .int 0, .ref h24, .int 0, .ref h25])), (h1, .inl (cI, 7, .inl (fun _ => 0))), (h2, .inl (cI, 64, .inl (fun _ => 0)))] sz)) (va_Qi (fun (r : Int32) (_ : Unit) => r = (if 0 ≤ p1 then (if 255 < p1 then (-6) else 1) else (-4))) (fun _ _ => True) (va_A [(h0, .inr (10, [.ref h1, .ref h3, .ref h4, .ref h5, .ref h6, .ref h7, .ref h8, .int 0, .ref h9, .ref h10, .ref h11, .ref h12, .ref h13, .ref h14, .ref h2, .int 0, .int 0, .int 0, .ref h15, .ref h16, .int 0, .int 0, .int 0, .ref h17, .ref h18, .ref h19, .ref h20, .ref h21, .ref h22, .ref h23, .int 0, .ref h24, .int 0, .ref h25])), (h1, .inl (cI, 7, .inl (fun _ => 0))), (h2, .inl (cI, 64, .inl (fun _ => 0)))] sz)) 0 0 (va_A [(h0, .inr (10, [.ref h1, .ref h3, .ref h4, .ref h5, .ref h6, .ref h7, .ref h8, .int 0, .ref h9, .ref h10, .ref h11, .ref h12, .ref h13, .ref h14, .ref h2, .int 0, .int 0, .int 0, .ref h15, .ref h16, .int 0, .int 0, .int 0, .ref h17, .ref h18, .ref h19, .ref h20, .ref h21, .ref h22, .ref h23, .int 0, .ref h24, .int 0, .ref h25])), (h1, .inl (cI, 7, .inl (fun _ => 0))), (h2, .inl (cI, 64, .inl (fun _ => 0)))] sz) := by
  refine Met.ofW (cc := cX10_letter) (maxL := 2) (ret := (some .int)) (by decide) rfl ?_
  intro p e s m args below meth c s₁ B hml hv
  obtain ⟨rfl, hsz, hP, hK, hD0⟩ := hv
  have hx := B.exec
  have hb := B.bytes
  have hr := B.returns
  have hts := atoms_spec (ws := sw_k_X10_letter) B.pre
  have hown : s.vm.findClass RX10 = some m.cls := findClass_of_methodNamed B.named
  have hlocks := B.notSynchronized
  subst hsz
  have hD := hD0.self (sz := s.heap.size)
  generalize hAe : va_A [(h0, .inr (10, [.ref h1, .ref h3, .ref h4, .ref h5, .ref h6, .ref h7, .ref h8, .int 0, .ref h9, .ref h10, .ref h11, .ref h12, .ref h13, .ref h14, .ref h2, .int 0, .int 0, .int 0, .ref h15, .ref h16, .int 0, .int 0, .int 0, .ref h17, .ref h18, .ref h19, .ref h20, .ref h21, .ref h22, .ref h23, .int 0, .ref h24, .int 0, .ref h25])), (h1, .inl (cI, 7, .inl (fun _ => 0))), (h2, .inl (cI, 64, .inl (fun _ => 0)))] s.heap.size = A at hD ⊢
  have hA : ∀ q : Nat, s.heap.size ≤ q → A q := fun q h => by rw [← hAe]; exact Or.inr h
  have hS : va_S A s.heap s.heap [] := va_S.rf
  have hl := lv_entry ([.ref h0, .int p1]) (n := 2) (Nat.le_of_ble_eq_true rfl)
  rw [lg_entry_eq]
  generalize (lg_sl ([.ref h0, .int p1]) ++ List.replicate (2 - (lg_sl ([.ref h0, .int p1])).length) Slot.unset).toArray = ls at hl ⊢
  have hl : lv_has ls 2 [(0, .ref h0), (1, .int p1)] := hl
  refine lv_iload_n hx hb dX10_letter_0 rfl (lv_at hl 1 rfl) ?_
  refine lv_if_ge (tgt := 11) hx hb dX10_letter_1 (by decide) (fun c1 => ?_) (fun c1 => ?_)
  · refine lv_iload_n hx hb dX10_letter_11 rfl (lv_at hl 1 rfl) ?_
    refine lv_sipush (v := 255) hx hb dX10_letter_12 (by decide) ?_
    refine lv_icmp_gt (tgt := 27) hx hb dX10_letter_15 (by decide) (fun c2 => ?_) (fun c2 => ?_)
    · refine lv_aload_n hx hb dX10_letter_27 rfl (lv_at hl 0 rfl) ?_
      refine lv_bipush (v := (-6)) hx hb dX10_letter_28 (by decide) ?_
      have hPc := hP.sub (ws' := [(h0, .inr (10, [.ref h1, .ref h3, .ref h4, .ref h5, .ref h6, .ref h7, .ref h8, .int 0, .ref h9, .ref h10, .ref h11, .ref h12, .ref h13, .ref h14, .ref h2, .int 0, .int 0, .int 0, .ref h15, .ref h16, .int 0, .int 0, .int 0, .ref h17, .ref h18, .ref h19, .ref h20, .ref h21, .ref h22, .ref h23, .int 0, .ref h24, .int 0, .ref h25])), (h1, .inl (cI, 7, .inl (fun _ => 0)))]) [0, 1] rfl
      have hDc := hD.sub (ws' := [(h0, .inr (10, [.ref h1, .ref h3, .ref h4, .ref h5, .ref h6, .ref h7, .ref h8, .int 0, .ref h9, .ref h10, .ref h11, .ref h12, .ref h13, .ref h14, .ref h2, .int 0, .int 0, .int 0, .ref h15, .ref h16, .int 0, .int 0, .int 0, .ref h17, .ref h18, .ref h19, .ref h20, .ref h21, .ref h22, .ref h23, .int 0, .ref h24, .int 0, .ref h25])), (h1, .inl (cI, 7, .inl (fun _ => 0)))]) [0, 1] (by decide) rfl
      have hFc := va_free (wc := [(h0, .inr (10, [.ref h1, .ref h3, .ref h4, .ref h5, .ref h6, .ref h7, .ref h8, .int 0, .ref h9, .ref h10, .ref h11, .ref h12, .ref h13, .ref h14, .ref h2, .int 0, .int 0, .int 0, .ref h15, .ref h16, .int 0, .int 0, .int 0, .ref h17, .ref h18, .ref h19, .ref h20, .ref h21, .ref h22, .ref h23, .int 0, .ref h24, .int 0, .ref h25])), (h1, .inl (cI, 7, .inl (fun _ => 0)))]) hD hS hA [0, 1] rfl
      refine va_calli (va_runV (As := [.int (-6)]) (rest := []) ⟨hx, hb, hml, hown, hts⟩ (k_X10_no l D cC cI cZ h0 h1 h3 h4 h5 h6 h7 h8 h9 h10 h11 h12 h13 h14 h2 h15 h16 h17 h18 h19 h20 h21 h22 h23 h24 h25 s.heap.size ) (cwV (C := RX10) 1 hts (goodIn_app (goodIn_of _ (by decide +kernel)) gc_k_X10_letter_k_X10_no) rfl rfl rfl (by decide +kernel) ⟨(Nat.le_of_ble_eq_true rfl), (Nat.le_of_ble_eq_true rfl)⟩) (kPreV hK hPc hDc (va_recv hK hPc (ci := 10) (q0 := 0) rfl rfl)) rfl rfl hl.1 rfl (lv_room (Nat.le_of_ble_eq_true rfl)) dX10_letter_30 ⟨(Nat.le_of_ble_eq_true rfl), (Nat.le_of_ble_eq_true rfl)⟩) hS (fun q _ h => hFc q h) hFc (fun r3 u t H1 locs ht hvm hw hB hz1 hk1 hS => ?_)
      obtain ⟨hP1, hD1⟩ := hB
      rw [ht] at hP1
      obtain ⟨hP, hD⟩ := va_join (wr := [(h2, .inl (cI, 64, .inl (fun _ => 0)))]) (w1 := [(h0, .inr (10, [.ref h1, .ref h3, .ref h4, .ref h5, .ref h6, .ref h7, .ref h8, .int 0, .ref h9, .ref h10, .ref h11, .ref h12, .ref h13, .ref h14, .ref h2, .int 0, .int 0, .int 0, .ref h15, .ref h16, .int 0, .int 0, .int 0, .ref h17, .ref h18, .ref h19, .ref h20, .ref h21, .ref h22, .ref h23, .int 0, .ref h24, .int 0, .ref h25])), (h1, .inl (cI, 7, .inl (upd (fun _ => 0) (Int32.toNatClampNeg 6) 1)))]) hP hD [0, 1] [2] rfl rfl (by decide) (by decide) hk1 hFc hP1 hD1
      generalize H1 = H at hP hS ⊢
      have hP : va_P D vwCl [(h2, .inl (cI, 64, .inl (fun _ => 0))), (h0, .inr (10, [.ref h1, .ref h3, .ref h4, .ref h5, .ref h6, .ref h7, .ref h8, .int 0, .ref h9, .ref h10, .ref h11, .ref h12, .ref h13, .ref h14, .ref h2, .int 0, .int 0, .int 0, .ref h15, .ref h16, .int 0, .int 0, .int 0, .ref h17, .ref h18, .ref h19, .ref h20, .ref h21, .ref h22, .ref h23, .int 0, .ref h24, .int 0, .ref h25])), (h1, .inl (cI, 7, .inl (upd (fun _ => 0) (Int32.toNatClampNeg 6) 1)))] H := hP
      have hD : va_D A [(h2, .inl (cI, 64, .inl (fun _ => 0))), (h0, .inr (10, [.ref h1, .ref h3, .ref h4, .ref h5, .ref h6, .ref h7, .ref h8, .int 0, .ref h9, .ref h10, .ref h11, .ref h12, .ref h13, .ref h14, .ref h2, .int 0, .int 0, .int 0, .ref h15, .ref h16, .int 0, .int 0, .int 0, .ref h17, .ref h18, .ref h19, .ref h20, .ref h21, .ref h22, .ref h23, .int 0, .ref h24, .int 0, .ref h25])), (h1, .inl (cI, 7, .inl (upd (fun _ => 0) (Int32.toNatClampNeg 6) 1)))] := hD
      have hw : r3 = (-6) := hw
      subst hw
      refine W.widen (k := 0) (n := 0) (Nat.le_of_ble_eq_true rfl) (Nat.le_of_ble_eq_true rfl) ?_
      exact W.iret (v := (-6)) hx hb hr (fun t ht hW => ⟨⟨(-6), (), rfl, (by rw [if_pos c1, if_pos c2]), trivial⟩, hS.F ht⟩) hS.2.2 dX10_letter_33
    · refine lv_aload_n hx hb dX10_letter_18 rfl (lv_at hl 0 rfl) ?_
      refine va_get (D := D) (ci := 10) (v := .int 0) (C := RX10) (T := TX10) (N := 34) hx hb hts iw_k_X10_letter_X10 hown hK hP 0 rfl rfl 15 (by decide) (hts (.fieldLink RX10 98 "TopTurnedModel" "taped" "I") (by decide +kernel)) (fun _ h9 => h9) rfl dX10_letter_19 ?_
      refine lv_bipush (v := 64) hx hb dX10_letter_22 (by decide) ?_
      refine lv_icmp_ne (tgt := 34) hx hb dX10_letter_24 (by decide) (fun _ => ?_) (fun c => absurd c (by decide))
      refine lv_aload_n hx hb dX10_letter_34 rfl (lv_at hl 0 rfl) ?_
      refine va_get (D := D) (ci := 10) (v := .ref h2) (C := RX10) (T := TX10) (N := 34) hx hb hts iw_k_X10_letter_X10 hown hK hP 0 rfl rfl 14 (by decide) (hts (.fieldLink RX10 49 "TopTurnedModel" "tape" "[I") (by decide +kernel)) (fun _ h9 => h9) rfl dX10_letter_35 ?_
      refine lv_aload_n hx hb dX10_letter_38 rfl (lv_at hl 0 rfl) ?_
      refine va_get (D := D) (ci := 10) (v := .int 0) (C := RX10) (T := TX10) (N := 34) hx hb hts iw_k_X10_letter_X10 hown hK hP 0 rfl rfl 15 (by decide) (hts (.fieldLink RX10 98 "TopTurnedModel" "taped" "I") (by decide +kernel)) (fun _ h9 => h9) rfl dX10_letter_39 ?_
      refine lv_iload_n hx hb dX10_letter_42 rfl (lv_at hl 1 rfl) ?_
      refine va_iast (i := 0) (x := p1) hx hb hK hP hD hS 2 1 rfl rfl (vp_in_iff.mpr (by decide)) dX10_letter_43 (fun H locs hP hD hS => ?_)
      have hP : va_P D vwCl [(h0, .inr (10, [.ref h1, .ref h3, .ref h4, .ref h5, .ref h6, .ref h7, .ref h8, .int 0, .ref h9, .ref h10, .ref h11, .ref h12, .ref h13, .ref h14, .ref h2, .int 0, .int 0, .int 0, .ref h15, .ref h16, .int 0, .int 0, .int 0, .ref h17, .ref h18, .ref h19, .ref h20, .ref h21, .ref h22, .ref h23, .int 0, .ref h24, .int 0, .ref h25])), (h1, .inl (cI, 7, .inl (fun _ => 0))), (h2, .inl (cI, 64, .inl (upd (fun _ => 0) (Int32.toNatClampNeg 0) p1)))] H := hP
      have hD : va_D A [(h0, .inr (10, [.ref h1, .ref h3, .ref h4, .ref h5, .ref h6, .ref h7, .ref h8, .int 0, .ref h9, .ref h10, .ref h11, .ref h12, .ref h13, .ref h14, .ref h2, .int 0, .int 0, .int 0, .ref h15, .ref h16, .int 0, .int 0, .int 0, .ref h17, .ref h18, .ref h19, .ref h20, .ref h21, .ref h22, .ref h23, .int 0, .ref h24, .int 0, .ref h25])), (h1, .inl (cI, 7, .inl (fun _ => 0))), (h2, .inl (cI, 64, .inl (upd (fun _ => 0) (Int32.toNatClampNeg 0) p1)))] := hD
      refine lv_aload_n hx hb dX10_letter_44 rfl (lv_at hl 0 rfl) ?_
      refine lv_dup hx hb dX10_letter_45 rfl ?_
      refine va_get (D := D) (ci := 10) (v := .int 0) (C := RX10) (T := TX10) (N := 34) hx hb hts iw_k_X10_letter_X10 hown hK hP 0 rfl rfl 15 (by decide) (hts (.fieldLink RX10 98 "TopTurnedModel" "taped" "I") (by decide +kernel)) (fun _ h9 => h9) rfl dX10_letter_46 ?_
      refine lv_iconst (v := 1) hx hb dX10_letter_49 (by decide) ?_
      refine lv_iadd hx hb dX10_letter_50 ?_
      refine kt_eq (y := 1) (by decide +kernel) ?_
      refine va_put (D := D) (ci := 10) (v := .int 1) (ty := .int) (C := RX10) (T := TX10) (N := 34) hx hb hts iw_k_X10_letter_X10 tyX10 tyX10_ok nmX10 hown hK hP hD hS 0 rfl rfl 15 (by decide) (hts (.fieldLink RX10 98 "TopTurnedModel" "taped" "I") (by decide +kernel)) (fun _ h9 => h9) rfl (by decide +kernel) rfl rfl (Nat.le_of_ble_eq_true rfl) dX10_letter_51 (fun H locs hP hD hS => ?_)
      have hP : va_P D vwCl [(h0, .inr (10, [.ref h1, .ref h3, .ref h4, .ref h5, .ref h6, .ref h7, .ref h8, .int 0, .ref h9, .ref h10, .ref h11, .ref h12, .ref h13, .ref h14, .ref h2, .int 1, .int 0, .int 0, .ref h15, .ref h16, .int 0, .int 0, .int 0, .ref h17, .ref h18, .ref h19, .ref h20, .ref h21, .ref h22, .ref h23, .int 0, .ref h24, .int 0, .ref h25])), (h1, .inl (cI, 7, .inl (fun _ => 0))), (h2, .inl (cI, 64, .inl (upd (fun _ => 0) (Int32.toNatClampNeg 0) p1)))] H := hP
      have hD : va_D A [(h0, .inr (10, [.ref h1, .ref h3, .ref h4, .ref h5, .ref h6, .ref h7, .ref h8, .int 0, .ref h9, .ref h10, .ref h11, .ref h12, .ref h13, .ref h14, .ref h2, .int 1, .int 0, .int 0, .ref h15, .ref h16, .int 0, .int 0, .int 0, .ref h17, .ref h18, .ref h19, .ref h20, .ref h21, .ref h22, .ref h23, .int 0, .ref h24, .int 0, .ref h25])), (h1, .inl (cI, 7, .inl (fun _ => 0))), (h2, .inl (cI, 64, .inl (upd (fun _ => 0) (Int32.toNatClampNeg 0) p1)))] := hD
      refine lv_aload_n hx hb dX10_letter_54 rfl (lv_at hl 0 rfl) ?_
      refine va_get (D := D) (ci := 10) (v := .int 1) (C := RX10) (T := TX10) (N := 34) hx hb hts iw_k_X10_letter_X10 hown hK hP 0 rfl rfl 15 (by decide) (hts (.fieldLink RX10 98 "TopTurnedModel" "taped" "I") (by decide +kernel)) (fun _ h9 => h9) rfl dX10_letter_55 ?_
      refine W.widen (k := 0) (n := 0) (Nat.le_of_ble_eq_true rfl) (Nat.le_of_ble_eq_true rfl) ?_
      exact W.iret (v := 1) hx hb hr (fun t ht hW => ⟨⟨1, (), rfl, (by rw [if_pos c1, if_neg c2]), trivial⟩, hS.F ht⟩) hS.2.2 dX10_letter_58
  · refine lv_aload_n hx hb dX10_letter_4 rfl (lv_at hl 0 rfl) ?_
    refine lv_bipush (v := (-4)) hx hb dX10_letter_5 (by decide) ?_
    have hPc := hP.sub (ws' := [(h0, .inr (10, [.ref h1, .ref h3, .ref h4, .ref h5, .ref h6, .ref h7, .ref h8, .int 0, .ref h9, .ref h10, .ref h11, .ref h12, .ref h13, .ref h14, .ref h2, .int 0, .int 0, .int 0, .ref h15, .ref h16, .int 0, .int 0, .int 0, .ref h17, .ref h18, .ref h19, .ref h20, .ref h21, .ref h22, .ref h23, .int 0, .ref h24, .int 0, .ref h25])), (h1, .inl (cI, 7, .inl (fun _ => 0)))]) [0, 1] rfl
    have hDc := hD.sub (ws' := [(h0, .inr (10, [.ref h1, .ref h3, .ref h4, .ref h5, .ref h6, .ref h7, .ref h8, .int 0, .ref h9, .ref h10, .ref h11, .ref h12, .ref h13, .ref h14, .ref h2, .int 0, .int 0, .int 0, .ref h15, .ref h16, .int 0, .int 0, .int 0, .ref h17, .ref h18, .ref h19, .ref h20, .ref h21, .ref h22, .ref h23, .int 0, .ref h24, .int 0, .ref h25])), (h1, .inl (cI, 7, .inl (fun _ => 0)))]) [0, 1] (by decide) rfl
    have hFc := va_free (wc := [(h0, .inr (10, [.ref h1, .ref h3, .ref h4, .ref h5, .ref h6, .ref h7, .ref h8, .int 0, .ref h9, .ref h10, .ref h11, .ref h12, .ref h13, .ref h14, .ref h2, .int 0, .int 0, .int 0, .ref h15, .ref h16, .int 0, .int 0, .int 0, .ref h17, .ref h18, .ref h19, .ref h20, .ref h21, .ref h22, .ref h23, .int 0, .ref h24, .int 0, .ref h25])), (h1, .inl (cI, 7, .inl (fun _ => 0)))]) hD hS hA [0, 1] rfl
    refine va_calli (va_runV (As := [.int (-4)]) (rest := []) ⟨hx, hb, hml, hown, hts⟩ (k_X10_no_1 l D cC cI cZ h0 h1 h3 h4 h5 h6 h7 h8 h9 h10 h11 h12 h13 h14 h2 h15 h16 h17 h18 h19 h20 h21 h22 h23 h24 h25 s.heap.size ) (cwV (C := RX10) 1 hts (goodIn_app (goodIn_of _ (by decide +kernel)) gc_k_X10_letter_k_X10_no_1) rfl rfl rfl (by decide +kernel) ⟨(Nat.le_of_ble_eq_true rfl), (Nat.le_of_ble_eq_true rfl)⟩) (kPreV hK hPc hDc (va_recv hK hPc (ci := 10) (q0 := 0) rfl rfl)) rfl rfl hl.1 rfl (lv_room (Nat.le_of_ble_eq_true rfl)) dX10_letter_7 ⟨(Nat.le_of_ble_eq_true rfl), (Nat.le_of_ble_eq_true rfl)⟩) hS (fun q _ h => hFc q h) hFc (fun r4 u t H1 locs ht hvm hw hB hz1 hk1 hS => ?_)
    obtain ⟨hP1, hD1⟩ := hB
    rw [ht] at hP1
    obtain ⟨hP, hD⟩ := va_join (wr := [(h2, .inl (cI, 64, .inl (fun _ => 0)))]) (w1 := [(h0, .inr (10, [.ref h1, .ref h3, .ref h4, .ref h5, .ref h6, .ref h7, .ref h8, .int 0, .ref h9, .ref h10, .ref h11, .ref h12, .ref h13, .ref h14, .ref h2, .int 0, .int 0, .int 0, .ref h15, .ref h16, .int 0, .int 0, .int 0, .ref h17, .ref h18, .ref h19, .ref h20, .ref h21, .ref h22, .ref h23, .int 0, .ref h24, .int 0, .ref h25])), (h1, .inl (cI, 7, .inl (upd (fun _ => 0) (Int32.toNatClampNeg 4) 1)))]) hP hD [0, 1] [2] rfl rfl (by decide) (by decide) hk1 hFc hP1 hD1
    generalize H1 = H at hP hS ⊢
    have hP : va_P D vwCl [(h2, .inl (cI, 64, .inl (fun _ => 0))), (h0, .inr (10, [.ref h1, .ref h3, .ref h4, .ref h5, .ref h6, .ref h7, .ref h8, .int 0, .ref h9, .ref h10, .ref h11, .ref h12, .ref h13, .ref h14, .ref h2, .int 0, .int 0, .int 0, .ref h15, .ref h16, .int 0, .int 0, .int 0, .ref h17, .ref h18, .ref h19, .ref h20, .ref h21, .ref h22, .ref h23, .int 0, .ref h24, .int 0, .ref h25])), (h1, .inl (cI, 7, .inl (upd (fun _ => 0) (Int32.toNatClampNeg 4) 1)))] H := hP
    have hD : va_D A [(h2, .inl (cI, 64, .inl (fun _ => 0))), (h0, .inr (10, [.ref h1, .ref h3, .ref h4, .ref h5, .ref h6, .ref h7, .ref h8, .int 0, .ref h9, .ref h10, .ref h11, .ref h12, .ref h13, .ref h14, .ref h2, .int 0, .int 0, .int 0, .ref h15, .ref h16, .int 0, .int 0, .int 0, .ref h17, .ref h18, .ref h19, .ref h20, .ref h21, .ref h22, .ref h23, .int 0, .ref h24, .int 0, .ref h25])), (h1, .inl (cI, 7, .inl (upd (fun _ => 0) (Int32.toNatClampNeg 4) 1)))] := hD
    have hw : r4 = (-4) := hw
    subst hw
    refine W.widen (k := 0) (n := 0) (Nat.le_of_ble_eq_true rfl) (Nat.le_of_ble_eq_true rfl) ?_
    exact W.iret (v := (-4)) hx hb hr (fun t ht hW => ⟨⟨(-4), (), rfl, (by rw [if_neg c1]), trivial⟩, hS.F ht⟩) hS.2.2 dX10_letter_10
def sw_k_X10_comes : List Cond := .code yX10_comes cX10_comes 2 (some .boolean) :: (([.fieldLink RX10 102 "TopTurnedModel" "at" "I", .fieldLink RX10 98 "TopTurnedModel" "taped" "I"] : List Cond) ++ (wsX100 ++ (([] : List Cond))))
theorem gd_k_X10_comes : ∀ w ∈ sw_k_X10_comes, (w.onTables && w.keeps) = true ∨ ∃ ty, w = .arrayClass ty := List.forall_mem_cons.mpr ⟨good_of_word rfl, List.forall_mem_append.mpr ⟨fun w h => good_of_word (List.all_eq_true.mp (by decide +kernel : (([.fieldLink RX10 102 "TopTurnedModel" "at" "I", .fieldLink RX10 98 "TopTurnedModel" "taped" "I"] : List Cond)).all goodWord = true) w h), List.forall_mem_append.mpr ⟨gw_X10, fun _ h => absurd h List.not_mem_nil⟩⟩⟩
theorem iw_k_X10_comes_X10 : ∀ w ∈ wsX100, w ∈ sw_k_X10_comes := fun _ h => List.mem_cons_of_mem _ (List.mem_append_right _ (List.mem_append_left _ h))
set_option maxHeartbeats 4000000 in
set_option maxRecDepth 100000 in
theorem k_X10_comes (l : Launch) (D : va_G) (cC cI cZ : ClassId) (h0 h1 h2 h3 h4 h5 h6 h7 h8 h9 h10 h11 h12 h13 h14 h15 h16 h17 h18 h19 h20 h21 h22 h23 h24 h25 : Nat) (sz : Nat) : Met l yX10_comes sw_k_X10_comes ({ frames := 2, cells := 0, slots := 0, locals := 100 }) (va_Pc [.ref h0, .int 112] (kPre D cC cI cZ [(h0, .inr (10, [.ref h1, .ref h2, .ref h3, .ref h4, .ref h5, .ref h6, .ref h7, .int 0, .ref h8, .ref h9, .ref h10, .ref h11, .ref h12, .ref h13, .ref h14, .int 0, .int 0, .int 1, .ref h15, .ref h16, .int 0, .int 0, .int 0, .ref h17, .ref h18, .ref h19, .ref h20, .ref h21, .ref h22, .ref h23, .int 0, .ref h24, .int 0, .ref h25]))] sz)) (va_Qi (fun (r : Int32) (_ : Unit) => r = 0) (fun _ _ => True) (fun _ => False)) 0 0 (fun _ => False) := by
  refine Met.ofW (cc := cX10_comes) (maxL := 2) (ret := (some .boolean)) (by decide) rfl ?_
  intro p e s m args below meth c s₁ B hml hv
  obtain ⟨rfl, hsz, hP, hK, hD0⟩ := hv
  have hx := B.exec
  have hb := B.bytes
  have hr := B.returns
  have hts := atoms_spec (ws := sw_k_X10_comes) B.pre
  have hown : s.vm.findClass RX10 = some m.cls := findClass_of_methodNamed B.named
  have hlocks := B.notSynchronized
  subst hsz
  have hD := hD0
  have hS : va_S (fun _ => False) s.heap s.heap [] := va_S.rf
  have hl := lv_entry ([.ref h0, .int 112]) (n := 2) (Nat.le_of_ble_eq_true rfl)
  rw [lg_entry_eq]
  generalize (lg_sl ([.ref h0, .int 112]) ++ List.replicate (2 - (lg_sl ([.ref h0, .int 112])).length) Slot.unset).toArray = ls at hl ⊢
  have hl : lv_has ls 2 [(0, .ref h0), (1, .int 112)] := hl
  refine lv_aload_n hx hb dX10_comes_0 rfl (lv_at hl 0 rfl) ?_
  refine va_get (D := D) (ci := 10) (v := .int 0) (C := RX10) (T := TX10) (N := 34) hx hb hts iw_k_X10_comes_X10 hown hK hP 0 rfl rfl 16 (by decide) (hts (.fieldLink RX10 102 "TopTurnedModel" "at" "I") (by decide +kernel)) (fun _ h9 => h9) rfl dX10_comes_1 ?_
  refine lv_aload_n hx hb dX10_comes_4 rfl (lv_at hl 0 rfl) ?_
  refine va_get (D := D) (ci := 10) (v := .int 0) (C := RX10) (T := TX10) (N := 34) hx hb hts iw_k_X10_comes_X10 hown hK hP 0 rfl rfl 15 (by decide) (hts (.fieldLink RX10 98 "TopTurnedModel" "taped" "I") (by decide +kernel)) (fun _ h9 => h9) rfl dX10_comes_5 ?_
  refine lv_icmp_ge (tgt := 28) hx hb dX10_comes_8 (by decide) (fun _ => ?_) (fun c => absurd (by decide) c)
  refine lv_iconst (v := 0) hx hb dX10_comes_28 (by decide) ?_
  exact W.zret (v := 0) hx hb hr rfl (fun t ht hW => ⟨⟨0, (), rfl, rfl, trivial⟩, hS.F ht⟩) hS.2.2 dX10_comes_29
def sw_k_X10_comes_1 : List Cond := .code yX10_comes cX10_comes 2 (some .boolean) :: (([.fieldLink RX10 102 "TopTurnedModel" "at" "I", .fieldLink RX10 98 "TopTurnedModel" "taped" "I"] : List Cond) ++ (wsX100 ++ (([] : List Cond))))
theorem gd_k_X10_comes_1 : ∀ w ∈ sw_k_X10_comes_1, (w.onTables && w.keeps) = true ∨ ∃ ty, w = .arrayClass ty := List.forall_mem_cons.mpr ⟨good_of_word rfl, List.forall_mem_append.mpr ⟨fun w h => good_of_word (List.all_eq_true.mp (by decide +kernel : (([.fieldLink RX10 102 "TopTurnedModel" "at" "I", .fieldLink RX10 98 "TopTurnedModel" "taped" "I"] : List Cond)).all goodWord = true) w h), List.forall_mem_append.mpr ⟨gw_X10, fun _ h => absurd h List.not_mem_nil⟩⟩⟩
theorem iw_k_X10_comes_1_X10 : ∀ w ∈ wsX100, w ∈ sw_k_X10_comes_1 := fun _ h => List.mem_cons_of_mem _ (List.mem_append_right _ (List.mem_append_left _ h))
set_option maxHeartbeats 4000000 in
set_option maxRecDepth 100000 in
theorem k_X10_comes_1 (l : Launch) (D : va_G) (cC cI cZ : ClassId) (h0 h1 h2 h3 h4 h5 h6 h7 h8 h9 h10 h11 h12 h13 h14 h15 h16 h17 h18 h19 h20 h21 h22 h23 h24 h25 : Nat) (sz : Nat) : Met l yX10_comes sw_k_X10_comes_1 ({ frames := 2, cells := 0, slots := 0, locals := 100 }) (va_Pc [.ref h0, .int 108] (kPre D cC cI cZ [(h0, .inr (10, [.ref h1, .ref h2, .ref h3, .ref h4, .ref h5, .ref h6, .ref h7, .int 0, .ref h8, .ref h9, .ref h10, .ref h11, .ref h12, .ref h13, .ref h14, .int 0, .int 0, .int 1, .ref h15, .ref h16, .int 0, .int 0, .int 0, .ref h17, .ref h18, .ref h19, .ref h20, .ref h21, .ref h22, .ref h23, .int 0, .ref h24, .int 0, .ref h25]))] sz)) (va_Qi (fun (r : Int32) (_ : Unit) => r = 0) (fun _ _ => True) (fun _ => False)) 0 0 (fun _ => False) := by
  refine Met.ofW (cc := cX10_comes) (maxL := 2) (ret := (some .boolean)) (by decide) rfl ?_
  intro p e s m args below meth c s₁ B hml hv
  obtain ⟨rfl, hsz, hP, hK, hD0⟩ := hv
  have hx := B.exec
  have hb := B.bytes
  have hr := B.returns
  have hts := atoms_spec (ws := sw_k_X10_comes_1) B.pre
  have hown : s.vm.findClass RX10 = some m.cls := findClass_of_methodNamed B.named
  have hlocks := B.notSynchronized
  subst hsz
  have hD := hD0
  have hS : va_S (fun _ => False) s.heap s.heap [] := va_S.rf
  have hl := lv_entry ([.ref h0, .int 108]) (n := 2) (Nat.le_of_ble_eq_true rfl)
  rw [lg_entry_eq]
  generalize (lg_sl ([.ref h0, .int 108]) ++ List.replicate (2 - (lg_sl ([.ref h0, .int 108])).length) Slot.unset).toArray = ls at hl ⊢
  have hl : lv_has ls 2 [(0, .ref h0), (1, .int 108)] := hl
  refine lv_aload_n hx hb dX10_comes_0 rfl (lv_at hl 0 rfl) ?_
  refine va_get (D := D) (ci := 10) (v := .int 0) (C := RX10) (T := TX10) (N := 34) hx hb hts iw_k_X10_comes_1_X10 hown hK hP 0 rfl rfl 16 (by decide) (hts (.fieldLink RX10 102 "TopTurnedModel" "at" "I") (by decide +kernel)) (fun _ h9 => h9) rfl dX10_comes_1 ?_
  refine lv_aload_n hx hb dX10_comes_4 rfl (lv_at hl 0 rfl) ?_
  refine va_get (D := D) (ci := 10) (v := .int 0) (C := RX10) (T := TX10) (N := 34) hx hb hts iw_k_X10_comes_1_X10 hown hK hP 0 rfl rfl 15 (by decide) (hts (.fieldLink RX10 98 "TopTurnedModel" "taped" "I") (by decide +kernel)) (fun _ h9 => h9) rfl dX10_comes_5 ?_
  refine lv_icmp_ge (tgt := 28) hx hb dX10_comes_8 (by decide) (fun _ => ?_) (fun c => absurd (by decide) c)
  refine lv_iconst (v := 0) hx hb dX10_comes_28 (by decide) ?_
  exact W.zret (v := 0) hx hb hr rfl (fun t ht hW => ⟨⟨0, (), rfl, rfl, trivial⟩, hS.F ht⟩) hS.2.2 dX10_comes_29
def sw_k_X10_comes_2 : List Cond := .code yX10_comes cX10_comes 2 (some .boolean) :: (([.fieldLink RX10 102 "TopTurnedModel" "at" "I", .fieldLink RX10 98 "TopTurnedModel" "taped" "I"] : List Cond) ++ (wsX100 ++ (([] : List Cond))))
theorem gd_k_X10_comes_2 : ∀ w ∈ sw_k_X10_comes_2, (w.onTables && w.keeps) = true ∨ ∃ ty, w = .arrayClass ty := List.forall_mem_cons.mpr ⟨good_of_word rfl, List.forall_mem_append.mpr ⟨fun w h => good_of_word (List.all_eq_true.mp (by decide +kernel : (([.fieldLink RX10 102 "TopTurnedModel" "at" "I", .fieldLink RX10 98 "TopTurnedModel" "taped" "I"] : List Cond)).all goodWord = true) w h), List.forall_mem_append.mpr ⟨gw_X10, fun _ h => absurd h List.not_mem_nil⟩⟩⟩
theorem iw_k_X10_comes_2_X10 : ∀ w ∈ wsX100, w ∈ sw_k_X10_comes_2 := fun _ h => List.mem_cons_of_mem _ (List.mem_append_right _ (List.mem_append_left _ h))
set_option maxHeartbeats 4000000 in
set_option maxRecDepth 100000 in
theorem k_X10_comes_2 (l : Launch) (D : va_G) (cC cI cZ : ClassId) (h0 h1 h2 h3 h4 h5 h6 h7 h8 h9 h10 h11 h12 h13 h14 h15 h16 h17 h18 h19 h20 h21 h22 h23 h24 h25 : Nat) (sz : Nat) : Met l yX10_comes sw_k_X10_comes_2 ({ frames := 2, cells := 0, slots := 0, locals := 100 }) (va_Pc [.ref h0, .int 109] (kPre D cC cI cZ [(h0, .inr (10, [.ref h1, .ref h2, .ref h3, .ref h4, .ref h5, .ref h6, .ref h7, .int 0, .ref h8, .ref h9, .ref h10, .ref h11, .ref h12, .ref h13, .ref h14, .int 0, .int 0, .int 1, .ref h15, .ref h16, .int 0, .int 0, .int 0, .ref h17, .ref h18, .ref h19, .ref h20, .ref h21, .ref h22, .ref h23, .int 0, .ref h24, .int 0, .ref h25]))] sz)) (va_Qi (fun (r : Int32) (_ : Unit) => r = 0) (fun _ _ => True) (fun _ => False)) 0 0 (fun _ => False) := by
  refine Met.ofW (cc := cX10_comes) (maxL := 2) (ret := (some .boolean)) (by decide) rfl ?_
  intro p e s m args below meth c s₁ B hml hv
  obtain ⟨rfl, hsz, hP, hK, hD0⟩ := hv
  have hx := B.exec
  have hb := B.bytes
  have hr := B.returns
  have hts := atoms_spec (ws := sw_k_X10_comes_2) B.pre
  have hown : s.vm.findClass RX10 = some m.cls := findClass_of_methodNamed B.named
  have hlocks := B.notSynchronized
  subst hsz
  have hD := hD0
  have hS : va_S (fun _ => False) s.heap s.heap [] := va_S.rf
  have hl := lv_entry ([.ref h0, .int 109]) (n := 2) (Nat.le_of_ble_eq_true rfl)
  rw [lg_entry_eq]
  generalize (lg_sl ([.ref h0, .int 109]) ++ List.replicate (2 - (lg_sl ([.ref h0, .int 109])).length) Slot.unset).toArray = ls at hl ⊢
  have hl : lv_has ls 2 [(0, .ref h0), (1, .int 109)] := hl
  refine lv_aload_n hx hb dX10_comes_0 rfl (lv_at hl 0 rfl) ?_
  refine va_get (D := D) (ci := 10) (v := .int 0) (C := RX10) (T := TX10) (N := 34) hx hb hts iw_k_X10_comes_2_X10 hown hK hP 0 rfl rfl 16 (by decide) (hts (.fieldLink RX10 102 "TopTurnedModel" "at" "I") (by decide +kernel)) (fun _ h9 => h9) rfl dX10_comes_1 ?_
  refine lv_aload_n hx hb dX10_comes_4 rfl (lv_at hl 0 rfl) ?_
  refine va_get (D := D) (ci := 10) (v := .int 0) (C := RX10) (T := TX10) (N := 34) hx hb hts iw_k_X10_comes_2_X10 hown hK hP 0 rfl rfl 15 (by decide) (hts (.fieldLink RX10 98 "TopTurnedModel" "taped" "I") (by decide +kernel)) (fun _ h9 => h9) rfl dX10_comes_5 ?_
  refine lv_icmp_ge (tgt := 28) hx hb dX10_comes_8 (by decide) (fun _ => ?_) (fun c => absurd (by decide) c)
  refine lv_iconst (v := 0) hx hb dX10_comes_28 (by decide) ?_
  exact W.zret (v := 0) hx hb hr rfl (fun t ht hW => ⟨⟨0, (), rfl, rfl, trivial⟩, hS.F ht⟩) hS.2.2 dX10_comes_29
def sw_k_X10_comes_3 : List Cond := .code yX10_comes cX10_comes 2 (some .boolean) :: (([.fieldLink RX10 102 "TopTurnedModel" "at" "I", .fieldLink RX10 98 "TopTurnedModel" "taped" "I"] : List Cond) ++ (wsX100 ++ (([] : List Cond))))
theorem gd_k_X10_comes_3 : ∀ w ∈ sw_k_X10_comes_3, (w.onTables && w.keeps) = true ∨ ∃ ty, w = .arrayClass ty := List.forall_mem_cons.mpr ⟨good_of_word rfl, List.forall_mem_append.mpr ⟨fun w h => good_of_word (List.all_eq_true.mp (by decide +kernel : (([.fieldLink RX10 102 "TopTurnedModel" "at" "I", .fieldLink RX10 98 "TopTurnedModel" "taped" "I"] : List Cond)).all goodWord = true) w h), List.forall_mem_append.mpr ⟨gw_X10, fun _ h => absurd h List.not_mem_nil⟩⟩⟩
theorem iw_k_X10_comes_3_X10 : ∀ w ∈ wsX100, w ∈ sw_k_X10_comes_3 := fun _ h => List.mem_cons_of_mem _ (List.mem_append_right _ (List.mem_append_left _ h))
set_option maxHeartbeats 4000000 in
set_option maxRecDepth 100000 in
theorem k_X10_comes_3 (l : Launch) (D : va_G) (cC cI cZ : ClassId) (h0 h1 h2 h3 h4 h5 h6 h7 h8 h9 h10 h11 h12 h13 h14 h15 h16 h17 h18 h19 h20 h21 h22 h23 h24 h25 : Nat) (sz : Nat) : Met l yX10_comes sw_k_X10_comes_3 ({ frames := 2, cells := 0, slots := 0, locals := 100 }) (va_Pc [.ref h0, .int 107] (kPre D cC cI cZ [(h0, .inr (10, [.ref h1, .ref h2, .ref h3, .ref h4, .ref h5, .ref h6, .ref h7, .int 0, .ref h8, .ref h9, .ref h10, .ref h11, .ref h12, .ref h13, .ref h14, .int 0, .int 0, .int 1, .ref h15, .ref h16, .int 0, .int 0, .int 0, .ref h17, .ref h18, .ref h19, .ref h20, .ref h21, .ref h22, .ref h23, .int 0, .ref h24, .int 0, .ref h25]))] sz)) (va_Qi (fun (r : Int32) (_ : Unit) => r = 0) (fun _ _ => True) (fun _ => False)) 0 0 (fun _ => False) := by
  refine Met.ofW (cc := cX10_comes) (maxL := 2) (ret := (some .boolean)) (by decide) rfl ?_
  intro p e s m args below meth c s₁ B hml hv
  obtain ⟨rfl, hsz, hP, hK, hD0⟩ := hv
  have hx := B.exec
  have hb := B.bytes
  have hr := B.returns
  have hts := atoms_spec (ws := sw_k_X10_comes_3) B.pre
  have hown : s.vm.findClass RX10 = some m.cls := findClass_of_methodNamed B.named
  have hlocks := B.notSynchronized
  subst hsz
  have hD := hD0
  have hS : va_S (fun _ => False) s.heap s.heap [] := va_S.rf
  have hl := lv_entry ([.ref h0, .int 107]) (n := 2) (Nat.le_of_ble_eq_true rfl)
  rw [lg_entry_eq]
  generalize (lg_sl ([.ref h0, .int 107]) ++ List.replicate (2 - (lg_sl ([.ref h0, .int 107])).length) Slot.unset).toArray = ls at hl ⊢
  have hl : lv_has ls 2 [(0, .ref h0), (1, .int 107)] := hl
  refine lv_aload_n hx hb dX10_comes_0 rfl (lv_at hl 0 rfl) ?_
  refine va_get (D := D) (ci := 10) (v := .int 0) (C := RX10) (T := TX10) (N := 34) hx hb hts iw_k_X10_comes_3_X10 hown hK hP 0 rfl rfl 16 (by decide) (hts (.fieldLink RX10 102 "TopTurnedModel" "at" "I") (by decide +kernel)) (fun _ h9 => h9) rfl dX10_comes_1 ?_
  refine lv_aload_n hx hb dX10_comes_4 rfl (lv_at hl 0 rfl) ?_
  refine va_get (D := D) (ci := 10) (v := .int 0) (C := RX10) (T := TX10) (N := 34) hx hb hts iw_k_X10_comes_3_X10 hown hK hP 0 rfl rfl 15 (by decide) (hts (.fieldLink RX10 98 "TopTurnedModel" "taped" "I") (by decide +kernel)) (fun _ h9 => h9) rfl dX10_comes_5 ?_
  refine lv_icmp_ge (tgt := 28) hx hb dX10_comes_8 (by decide) (fun _ => ?_) (fun c => absurd (by decide) c)
  refine lv_iconst (v := 0) hx hb dX10_comes_28 (by decide) ?_
  exact W.zret (v := 0) hx hb hr rfl (fun t ht hW => ⟨⟨0, (), rfl, rfl, trivial⟩, hS.F ht⟩) hS.2.2 dX10_comes_29
def sw_k_X10_comes_4 : List Cond := .code yX10_comes cX10_comes 2 (some .boolean) :: (([.fieldLink RX10 102 "TopTurnedModel" "at" "I", .fieldLink RX10 98 "TopTurnedModel" "taped" "I"] : List Cond) ++ (wsX100 ++ (([] : List Cond))))
theorem gd_k_X10_comes_4 : ∀ w ∈ sw_k_X10_comes_4, (w.onTables && w.keeps) = true ∨ ∃ ty, w = .arrayClass ty := List.forall_mem_cons.mpr ⟨good_of_word rfl, List.forall_mem_append.mpr ⟨fun w h => good_of_word (List.all_eq_true.mp (by decide +kernel : (([.fieldLink RX10 102 "TopTurnedModel" "at" "I", .fieldLink RX10 98 "TopTurnedModel" "taped" "I"] : List Cond)).all goodWord = true) w h), List.forall_mem_append.mpr ⟨gw_X10, fun _ h => absurd h List.not_mem_nil⟩⟩⟩
theorem iw_k_X10_comes_4_X10 : ∀ w ∈ wsX100, w ∈ sw_k_X10_comes_4 := fun _ h => List.mem_cons_of_mem _ (List.mem_append_right _ (List.mem_append_left _ h))
set_option maxHeartbeats 4000000 in
set_option maxRecDepth 100000 in
theorem k_X10_comes_4 (l : Launch) (D : va_G) (cC cI cZ : ClassId) (h0 h1 h2 h3 h4 h5 h6 h7 h8 h9 h10 h11 h12 h13 h14 h15 h16 h17 h18 h19 h20 h21 h22 h23 h24 h25 : Nat) (sz : Nat) : Met l yX10_comes sw_k_X10_comes_4 ({ frames := 2, cells := 0, slots := 0, locals := 100 }) (va_Pc [.ref h0, .int 98] (kPre D cC cI cZ [(h0, .inr (10, [.ref h1, .ref h2, .ref h3, .ref h4, .ref h5, .ref h6, .ref h7, .int 0, .ref h8, .ref h9, .ref h10, .ref h11, .ref h12, .ref h13, .ref h14, .int 0, .int 0, .int 1, .ref h15, .ref h16, .int 0, .int 0, .int 0, .ref h17, .ref h18, .ref h19, .ref h20, .ref h21, .ref h22, .ref h23, .int 0, .ref h24, .int 0, .ref h25]))] sz)) (va_Qi (fun (r : Int32) (_ : Unit) => r = 0) (fun _ _ => True) (fun _ => False)) 0 0 (fun _ => False) := by
  refine Met.ofW (cc := cX10_comes) (maxL := 2) (ret := (some .boolean)) (by decide) rfl ?_
  intro p e s m args below meth c s₁ B hml hv
  obtain ⟨rfl, hsz, hP, hK, hD0⟩ := hv
  have hx := B.exec
  have hb := B.bytes
  have hr := B.returns
  have hts := atoms_spec (ws := sw_k_X10_comes_4) B.pre
  have hown : s.vm.findClass RX10 = some m.cls := findClass_of_methodNamed B.named
  have hlocks := B.notSynchronized
  subst hsz
  have hD := hD0
  have hS : va_S (fun _ => False) s.heap s.heap [] := va_S.rf
  have hl := lv_entry ([.ref h0, .int 98]) (n := 2) (Nat.le_of_ble_eq_true rfl)
  rw [lg_entry_eq]
  generalize (lg_sl ([.ref h0, .int 98]) ++ List.replicate (2 - (lg_sl ([.ref h0, .int 98])).length) Slot.unset).toArray = ls at hl ⊢
  have hl : lv_has ls 2 [(0, .ref h0), (1, .int 98)] := hl
  refine lv_aload_n hx hb dX10_comes_0 rfl (lv_at hl 0 rfl) ?_
  refine va_get (D := D) (ci := 10) (v := .int 0) (C := RX10) (T := TX10) (N := 34) hx hb hts iw_k_X10_comes_4_X10 hown hK hP 0 rfl rfl 16 (by decide) (hts (.fieldLink RX10 102 "TopTurnedModel" "at" "I") (by decide +kernel)) (fun _ h9 => h9) rfl dX10_comes_1 ?_
  refine lv_aload_n hx hb dX10_comes_4 rfl (lv_at hl 0 rfl) ?_
  refine va_get (D := D) (ci := 10) (v := .int 0) (C := RX10) (T := TX10) (N := 34) hx hb hts iw_k_X10_comes_4_X10 hown hK hP 0 rfl rfl 15 (by decide) (hts (.fieldLink RX10 98 "TopTurnedModel" "taped" "I") (by decide +kernel)) (fun _ h9 => h9) rfl dX10_comes_5 ?_
  refine lv_icmp_ge (tgt := 28) hx hb dX10_comes_8 (by decide) (fun _ => ?_) (fun c => absurd (by decide) c)
  refine lv_iconst (v := 0) hx hb dX10_comes_28 (by decide) ?_
  exact W.zret (v := 0) hx hb hr rfl (fun t ht hW => ⟨⟨0, (), rfl, rfl, trivial⟩, hS.F ht⟩) hS.2.2 dX10_comes_29
def sw_k_X10_comes_5 : List Cond := .code yX10_comes cX10_comes 2 (some .boolean) :: (([.fieldLink RX10 102 "TopTurnedModel" "at" "I", .fieldLink RX10 98 "TopTurnedModel" "taped" "I"] : List Cond) ++ (wsX100 ++ (([] : List Cond))))
theorem gd_k_X10_comes_5 : ∀ w ∈ sw_k_X10_comes_5, (w.onTables && w.keeps) = true ∨ ∃ ty, w = .arrayClass ty := List.forall_mem_cons.mpr ⟨good_of_word rfl, List.forall_mem_append.mpr ⟨fun w h => good_of_word (List.all_eq_true.mp (by decide +kernel : (([.fieldLink RX10 102 "TopTurnedModel" "at" "I", .fieldLink RX10 98 "TopTurnedModel" "taped" "I"] : List Cond)).all goodWord = true) w h), List.forall_mem_append.mpr ⟨gw_X10, fun _ h => absurd h List.not_mem_nil⟩⟩⟩
theorem iw_k_X10_comes_5_X10 : ∀ w ∈ wsX100, w ∈ sw_k_X10_comes_5 := fun _ h => List.mem_cons_of_mem _ (List.mem_append_right _ (List.mem_append_left _ h))
set_option maxHeartbeats 4000000 in
set_option maxRecDepth 100000 in
theorem k_X10_comes_5 (l : Launch) (D : va_G) (cC cI cZ : ClassId) (h0 h1 h2 h3 h4 h5 h6 h7 h8 h9 h10 h11 h12 h13 h14 h15 h16 h17 h18 h19 h20 h21 h22 h23 h24 h25 : Nat) (sz : Nat) : Met l yX10_comes sw_k_X10_comes_5 ({ frames := 2, cells := 0, slots := 0, locals := 100 }) (va_Pc [.ref h0, .int 99] (kPre D cC cI cZ [(h0, .inr (10, [.ref h1, .ref h2, .ref h3, .ref h4, .ref h5, .ref h6, .ref h7, .int 0, .ref h8, .ref h9, .ref h10, .ref h11, .ref h12, .ref h13, .ref h14, .int 0, .int 0, .int 1, .ref h15, .ref h16, .int 0, .int 0, .int 0, .ref h17, .ref h18, .ref h19, .ref h20, .ref h21, .ref h22, .ref h23, .int 0, .ref h24, .int 0, .ref h25]))] sz)) (va_Qi (fun (r : Int32) (_ : Unit) => r = 0) (fun _ _ => True) (fun _ => False)) 0 0 (fun _ => False) := by
  refine Met.ofW (cc := cX10_comes) (maxL := 2) (ret := (some .boolean)) (by decide) rfl ?_
  intro p e s m args below meth c s₁ B hml hv
  obtain ⟨rfl, hsz, hP, hK, hD0⟩ := hv
  have hx := B.exec
  have hb := B.bytes
  have hr := B.returns
  have hts := atoms_spec (ws := sw_k_X10_comes_5) B.pre
  have hown : s.vm.findClass RX10 = some m.cls := findClass_of_methodNamed B.named
  have hlocks := B.notSynchronized
  subst hsz
  have hD := hD0
  have hS : va_S (fun _ => False) s.heap s.heap [] := va_S.rf
  have hl := lv_entry ([.ref h0, .int 99]) (n := 2) (Nat.le_of_ble_eq_true rfl)
  rw [lg_entry_eq]
  generalize (lg_sl ([.ref h0, .int 99]) ++ List.replicate (2 - (lg_sl ([.ref h0, .int 99])).length) Slot.unset).toArray = ls at hl ⊢
  have hl : lv_has ls 2 [(0, .ref h0), (1, .int 99)] := hl
  refine lv_aload_n hx hb dX10_comes_0 rfl (lv_at hl 0 rfl) ?_
  refine va_get (D := D) (ci := 10) (v := .int 0) (C := RX10) (T := TX10) (N := 34) hx hb hts iw_k_X10_comes_5_X10 hown hK hP 0 rfl rfl 16 (by decide) (hts (.fieldLink RX10 102 "TopTurnedModel" "at" "I") (by decide +kernel)) (fun _ h9 => h9) rfl dX10_comes_1 ?_
  refine lv_aload_n hx hb dX10_comes_4 rfl (lv_at hl 0 rfl) ?_
  refine va_get (D := D) (ci := 10) (v := .int 0) (C := RX10) (T := TX10) (N := 34) hx hb hts iw_k_X10_comes_5_X10 hown hK hP 0 rfl rfl 15 (by decide) (hts (.fieldLink RX10 98 "TopTurnedModel" "taped" "I") (by decide +kernel)) (fun _ h9 => h9) rfl dX10_comes_5 ?_
  refine lv_icmp_ge (tgt := 28) hx hb dX10_comes_8 (by decide) (fun _ => ?_) (fun c => absurd (by decide) c)
  refine lv_iconst (v := 0) hx hb dX10_comes_28 (by decide) ?_
  exact W.zret (v := 0) hx hb hr rfl (fun t ht hW => ⟨⟨0, (), rfl, rfl, trivial⟩, hS.F ht⟩) hS.2.2 dX10_comes_29
def sw_k_X10_comes_6 : List Cond := .code yX10_comes cX10_comes 2 (some .boolean) :: (([.fieldLink RX10 102 "TopTurnedModel" "at" "I", .fieldLink RX10 98 "TopTurnedModel" "taped" "I"] : List Cond) ++ (wsX100 ++ (([] : List Cond))))
theorem gd_k_X10_comes_6 : ∀ w ∈ sw_k_X10_comes_6, (w.onTables && w.keeps) = true ∨ ∃ ty, w = .arrayClass ty := List.forall_mem_cons.mpr ⟨good_of_word rfl, List.forall_mem_append.mpr ⟨fun w h => good_of_word (List.all_eq_true.mp (by decide +kernel : (([.fieldLink RX10 102 "TopTurnedModel" "at" "I", .fieldLink RX10 98 "TopTurnedModel" "taped" "I"] : List Cond)).all goodWord = true) w h), List.forall_mem_append.mpr ⟨gw_X10, fun _ h => absurd h List.not_mem_nil⟩⟩⟩
theorem iw_k_X10_comes_6_X10 : ∀ w ∈ wsX100, w ∈ sw_k_X10_comes_6 := fun _ h => List.mem_cons_of_mem _ (List.mem_append_right _ (List.mem_append_left _ h))
set_option maxHeartbeats 4000000 in
set_option maxRecDepth 100000 in
theorem k_X10_comes_6 (l : Launch) (D : va_G) (cC cI cZ : ClassId) (h0 h1 h2 h3 h4 h5 h6 h7 h8 h9 h10 h11 h12 h13 h14 h15 h16 h17 h18 h19 h20 h21 h22 h23 h24 h25 : Nat) (sz : Nat) : Met l yX10_comes sw_k_X10_comes_6 ({ frames := 2, cells := 0, slots := 0, locals := 100 }) (va_Pc [.ref h0, .int 115] (kPre D cC cI cZ [(h0, .inr (10, [.ref h1, .ref h2, .ref h3, .ref h4, .ref h5, .ref h6, .ref h7, .int 0, .ref h8, .ref h9, .ref h10, .ref h11, .ref h12, .ref h13, .ref h14, .int 0, .int 0, .int 1, .ref h15, .ref h16, .int 0, .int 0, .int 0, .ref h17, .ref h18, .ref h19, .ref h20, .ref h21, .ref h22, .ref h23, .int 0, .ref h24, .int 0, .ref h25]))] sz)) (va_Qi (fun (r : Int32) (_ : Unit) => r = 0) (fun _ _ => True) (fun _ => False)) 0 0 (fun _ => False) := by
  refine Met.ofW (cc := cX10_comes) (maxL := 2) (ret := (some .boolean)) (by decide) rfl ?_
  intro p e s m args below meth c s₁ B hml hv
  obtain ⟨rfl, hsz, hP, hK, hD0⟩ := hv
  have hx := B.exec
  have hb := B.bytes
  have hr := B.returns
  have hts := atoms_spec (ws := sw_k_X10_comes_6) B.pre
  have hown : s.vm.findClass RX10 = some m.cls := findClass_of_methodNamed B.named
  have hlocks := B.notSynchronized
  subst hsz
  have hD := hD0
  have hS : va_S (fun _ => False) s.heap s.heap [] := va_S.rf
  have hl := lv_entry ([.ref h0, .int 115]) (n := 2) (Nat.le_of_ble_eq_true rfl)
  rw [lg_entry_eq]
  generalize (lg_sl ([.ref h0, .int 115]) ++ List.replicate (2 - (lg_sl ([.ref h0, .int 115])).length) Slot.unset).toArray = ls at hl ⊢
  have hl : lv_has ls 2 [(0, .ref h0), (1, .int 115)] := hl
  refine lv_aload_n hx hb dX10_comes_0 rfl (lv_at hl 0 rfl) ?_
  refine va_get (D := D) (ci := 10) (v := .int 0) (C := RX10) (T := TX10) (N := 34) hx hb hts iw_k_X10_comes_6_X10 hown hK hP 0 rfl rfl 16 (by decide) (hts (.fieldLink RX10 102 "TopTurnedModel" "at" "I") (by decide +kernel)) (fun _ h9 => h9) rfl dX10_comes_1 ?_
  refine lv_aload_n hx hb dX10_comes_4 rfl (lv_at hl 0 rfl) ?_
  refine va_get (D := D) (ci := 10) (v := .int 0) (C := RX10) (T := TX10) (N := 34) hx hb hts iw_k_X10_comes_6_X10 hown hK hP 0 rfl rfl 15 (by decide) (hts (.fieldLink RX10 98 "TopTurnedModel" "taped" "I") (by decide +kernel)) (fun _ h9 => h9) rfl dX10_comes_5 ?_
  refine lv_icmp_ge (tgt := 28) hx hb dX10_comes_8 (by decide) (fun _ => ?_) (fun c => absurd (by decide) c)
  refine lv_iconst (v := 0) hx hb dX10_comes_28 (by decide) ?_
  exact W.zret (v := 0) hx hb hr rfl (fun t ht hW => ⟨⟨0, (), rfl, rfl, trivial⟩, hS.F ht⟩) hS.2.2 dX10_comes_29
