def sw_k_X9_refuse_3 : List Cond := .code yX9_refuse cX9_refuse 2 (some .int) :: (([.fieldLink RX9 90 "TopTurned" "refusals" "[I"] : List Cond) ++ (wsX90 ++ (([] : List Cond))))
theorem gd_k_X9_refuse_3 : ∀ w ∈ sw_k_X9_refuse_3, (w.onTables && w.keeps) = true ∨ ∃ ty, w = .arrayClass ty := List.forall_mem_cons.mpr ⟨good_of_word rfl, List.forall_mem_append.mpr ⟨fun w h => good_of_word (List.all_eq_true.mp (by decide +kernel : (([.fieldLink RX9 90 "TopTurned" "refusals" "[I"] : List Cond)).all goodWord = true) w h), List.forall_mem_append.mpr ⟨gw_X9, fun _ h => absurd h List.not_mem_nil⟩⟩⟩
theorem iw_k_X9_refuse_3_X9 : ∀ w ∈ wsX90, w ∈ sw_k_X9_refuse_3 := fun _ h => List.mem_cons_of_mem _ (List.mem_append_right _ (List.mem_append_left _ h))
set_option maxHeartbeats 4000000 in
set_option maxRecDepth 100000 in
theorem k_X9_refuse_3 (l : Launch) (D : va_G) (cC cI cZ : ClassId) (h0 h1 h2 h3 h4 h5 h6 h7 h8 h9 h10 h11 : Nat) (sz : Nat) : Met l yX9_refuse sw_k_X9_refuse_3 ({ frames := 2, cells := 0, slots := 0, locals := 100 }) (va_Pc [.ref h0, .int (-2)] (kPre D cC cI cZ [(h0, .inr (9, [.ref h2, .ref h3, .ref h4, .int 0, .ref h5, .ref h6, .ref h7, .ref h8, .ref h9, .ref h10, .ref h11, .ref h1])), (h1, .inl (cI, 7, .inl (fun _ => 0)))] sz)) (va_Qi (fun (r : Int32) (_ : Unit) => r = (-2)) (fun _ t => va_P D vwCl [(h0, .inr (9, [.ref h2, .ref h3, .ref h4, .int 0, .ref h5, .ref h6, .ref h7, .ref h8, .ref h9, .ref h10, .ref h11, .ref h1])), (h1, .inl (cI, 7, .inl (upd (fun _ => 0) (Int32.toNatClampNeg 2) 1)))] t.heap ∧ va_D (va_A [(h0, .inr (9, [.ref h2, .ref h3, .ref h4, .int 0, .ref h5, .ref h6, .ref h7, .ref h8, .ref h9, .ref h10, .ref h11, .ref h1])), (h1, .inl (cI, 7, .inl (fun _ => 0)))] sz) [(h0, .inr (9, [.ref h2, .ref h3, .ref h4, .int 0, .ref h5, .ref h6, .ref h7, .ref h8, .ref h9, .ref h10, .ref h11, .ref h1])), (h1, .inl (cI, 7, .inl (upd (fun _ => 0) (Int32.toNatClampNeg 2) 1)))]) (va_A [(h0, .inr (9, [.ref h2, .ref h3, .ref h4, .int 0, .ref h5, .ref h6, .ref h7, .ref h8, .ref h9, .ref h10, .ref h11, .ref h1])), (h1, .inl (cI, 7, .inl (fun _ => 0)))] sz)) 0 0 (va_A [(h0, .inr (9, [.ref h2, .ref h3, .ref h4, .int 0, .ref h5, .ref h6, .ref h7, .ref h8, .ref h9, .ref h10, .ref h11, .ref h1])), (h1, .inl (cI, 7, .inl (fun _ => 0)))] sz) := by
  refine Met.ofW (cc := cX9_refuse) (maxL := 2) (ret := (some .int)) (by decide) rfl ?_
  intro p e s m args below meth c s₁ B hml hv
  obtain ⟨rfl, hsz, hP, hK, hD0⟩ := hv
  have hx := B.exec
  have hb := B.bytes
  have hr := B.returns
  have hts := atoms_spec (ws := sw_k_X9_refuse_3) B.pre
  have hown : s.vm.findClass RX9 = some m.cls := findClass_of_methodNamed B.named
  have hlocks := B.notSynchronized
  subst hsz
  have hD := hD0.self (sz := s.heap.size)
  generalize hAe : va_A [(h0, .inr (9, [.ref h2, .ref h3, .ref h4, .int 0, .ref h5, .ref h6, .ref h7, .ref h8, .ref h9, .ref h10, .ref h11, .ref h1])), (h1, .inl (cI, 7, .inl (fun _ => 0)))] s.heap.size = A at hD ⊢
  have hA : ∀ q : Nat, s.heap.size ≤ q → A q := fun q h => by rw [← hAe]; exact Or.inr h
  have hS : va_S A s.heap s.heap [] := va_S.rf
  have hl := lv_entry ([.ref h0, .int (-2)]) (n := 2) (Nat.le_of_ble_eq_true rfl)
  rw [lg_entry_eq]
  generalize (lg_sl ([.ref h0, .int (-2)]) ++ List.replicate (2 - (lg_sl ([.ref h0, .int (-2)])).length) Slot.unset).toArray = ls at hl ⊢
  have hl : lv_has ls 2 [(0, .ref h0), (1, .int (-2))] := hl
  refine lv_aload_n hx hb dX9_refuse_0 rfl (lv_at hl 0 rfl) ?_
  refine va_get (D := D) (ci := 9) (v := .ref h1) (C := RX9) (T := TX9) (N := 12) hx hb hts iw_k_X9_refuse_3_X9 hown hK hP 0 rfl rfl 11 (by decide) (hts (.fieldLink RX9 90 "TopTurned" "refusals" "[I") (by decide +kernel)) (fun _ h9 => h9) rfl dX9_refuse_1 ?_
  refine lv_iload_n hx hb dX9_refuse_4 rfl (lv_at hl 1 rfl) ?_
  refine lv_ineg hx hb dX9_refuse_5 ?_
  refine kt_eq (y := 2) (by decide +kernel) ?_
  refine lv_dup2_11 hx hb dX9_refuse_6 rfl rfl ?_
  refine va_iald (i := 2) hx hb hK hP 1 1 rfl rfl (vp_in_iff.mpr (by decide)) dX9_refuse_7 ?_
  refine kt_eq (y := 0) (by decide +kernel) ?_
  refine lv_iconst (v := 1) hx hb dX9_refuse_8 (by decide) ?_
  refine lv_iadd hx hb dX9_refuse_9 ?_
  refine kt_eq (y := 1) (by decide +kernel) ?_
  refine va_iast (i := 2) (x := 1) hx hb hK hP hD hS 1 1 rfl rfl (vp_in_iff.mpr (by decide)) dX9_refuse_10 (fun H locs hP hD hS => ?_)
  have hP : va_P D vwCl [(h0, .inr (9, [.ref h2, .ref h3, .ref h4, .int 0, .ref h5, .ref h6, .ref h7, .ref h8, .ref h9, .ref h10, .ref h11, .ref h1])), (h1, .inl (cI, 7, .inl (upd (fun _ => 0) (Int32.toNatClampNeg 2) 1)))] H := hP
  have hD : va_D A [(h0, .inr (9, [.ref h2, .ref h3, .ref h4, .int 0, .ref h5, .ref h6, .ref h7, .ref h8, .ref h9, .ref h10, .ref h11, .ref h1])), (h1, .inl (cI, 7, .inl (upd (fun _ => 0) (Int32.toNatClampNeg 2) 1)))] := hD
  refine lv_iload_n hx hb dX9_refuse_11 rfl (lv_at hl 1 rfl) ?_
  refine W.widen (k := 0) (n := 0) (Nat.le_of_ble_eq_true rfl) (Nat.le_of_ble_eq_true rfl) ?_
  have hP9 := hP.sub (ws' := [(h0, .inr (9, [.ref h2, .ref h3, .ref h4, .int 0, .ref h5, .ref h6, .ref h7, .ref h8, .ref h9, .ref h10, .ref h11, .ref h1])), (h1, .inl (cI, 7, .inl (upd (fun _ => 0) (Int32.toNatClampNeg 2) 1)))]) [0, 1] rfl
  have hD9 := hD.sub (ws' := [(h0, .inr (9, [.ref h2, .ref h3, .ref h4, .int 0, .ref h5, .ref h6, .ref h7, .ref h8, .ref h9, .ref h10, .ref h11, .ref h1])), (h1, .inl (cI, 7, .inl (upd (fun _ => 0) (Int32.toNatClampNeg 2) 1)))]) [0, 1] (by decide) rfl
  exact W.iret (v := (-2)) hx hb hr (fun t ht hW => ⟨⟨(-2), (), rfl, rfl, ⟨by rw [ht]; exact hP9, hD9⟩⟩, hS.F ht⟩) hS.2.2 dX9_refuse_12
def sw_k_X5_shape : List Cond := .code yX5_shape cX5_shape 3 none :: (([.fieldLink RX5 40 "TopTurned$Space" "plates" "I"] : List Cond) ++ (wsX50 ++ (([] : List Cond))))
theorem gd_k_X5_shape : ∀ w ∈ sw_k_X5_shape, (w.onTables && w.keeps) = true ∨ ∃ ty, w = .arrayClass ty := List.forall_mem_cons.mpr ⟨good_of_word rfl, List.forall_mem_append.mpr ⟨fun w h => good_of_word (List.all_eq_true.mp (by decide +kernel : (([.fieldLink RX5 40 "TopTurned$Space" "plates" "I"] : List Cond)).all goodWord = true) w h), List.forall_mem_append.mpr ⟨gw_X5, fun _ h => absurd h List.not_mem_nil⟩⟩⟩
theorem iw_k_X5_shape_X5 : ∀ w ∈ wsX50, w ∈ sw_k_X5_shape := fun _ h => List.mem_cons_of_mem _ (List.mem_append_right _ (List.mem_append_left _ h))
set_option maxHeartbeats 4000000 in
set_option maxRecDepth 100000 in
theorem k_X5_shape (l : Launch) (D : va_G) (cC cI cZ : ClassId) (h0 h1 h2 h3 h4 h5 h6 : Nat) (sz : Nat) : Met l yX5_shape sw_k_X5_shape ({ frames := 2, cells := 0, slots := 0, locals := 100 }) (va_Pc [.ref h0, .int 0] (kPre D cC cI cZ [(h0, .inr (5, [.int 0, .int 1, .int 1, .int 1, .int 0, .ref h1, .ref h2, .ref h3, .ref h4, .ref h5, .ref h6]))] sz)) (va_Qv (fun (_ : Unit) => True) (fun _ _ => True) (fun _ => False)) 0 0 (fun _ => False) := by
  refine Met.ofW (cc := cX5_shape) (maxL := 3) (ret := none) (by decide) rfl ?_
  intro p e s m args below meth c s₁ B hml hv
  obtain ⟨rfl, hsz, hP, hK, hD0⟩ := hv
  have hx := B.exec
  have hb := B.bytes
  have hr := B.returns
  have hts := atoms_spec (ws := sw_k_X5_shape) B.pre
  have hown : s.vm.findClass RX5 = some m.cls := findClass_of_methodNamed B.named
  have hlocks := B.notSynchronized
  subst hsz
  have hD := hD0
  have hS : va_S (fun _ => False) s.heap s.heap [] := va_S.rf
  have hl := lv_entry ([.ref h0, .int 0]) (n := 3) (Nat.le_of_ble_eq_true rfl)
  rw [lg_entry_eq]
  generalize (lg_sl ([.ref h0, .int 0]) ++ List.replicate (3 - (lg_sl ([.ref h0, .int 0])).length) Slot.unset).toArray = ls at hl ⊢
  have hl : lv_has ls 3 [(0, .ref h0), (1, .int 0)] := hl
  refine lv_iload_n hx hb dX5_shape_0 rfl (lv_at hl 1 rfl) ?_
  refine lv_aload_n hx hb dX5_shape_1 rfl (lv_at hl 0 rfl) ?_
  refine va_get (D := D) (ci := 5) (v := .int 0) (C := RX5) (T := TX5) (N := 11) hx hb hts iw_k_X5_shape_X5 hown hK hP 0 rfl rfl 0 (by decide) (hts (.fieldLink RX5 40 "TopTurned$Space" "plates" "I") (by decide +kernel)) (fun _ h9 => h9) rfl dX5_shape_2 ?_
  refine lv_icmp_eq (tgt := 17) hx hb dX5_shape_5 (by decide) (fun _ => ?_) (fun c => absurd (by decide) c)
  exact W.vret hx hb hr (fun t ht hW => ⟨⟨(), rfl, trivial, trivial⟩, hS.F ht⟩) hS.2.2 dX5_shape_17
def sw_k_J6_bitCount_0f7a4 : List Cond := .code yJ6_bitCount_0f7a4 cJ6_bitCount_0f7a4 1 (some .int) :: (([.constant RJ6 265 1431655765, .constant RJ6 266 858993459, .constant RJ6 267 252645135] : List Cond) ++ (([] : List Cond)))
theorem gd_k_J6_bitCount_0f7a4 : ∀ w ∈ sw_k_J6_bitCount_0f7a4, (w.onTables && w.keeps) = true ∨ ∃ ty, w = .arrayClass ty := List.forall_mem_cons.mpr ⟨good_of_word rfl, List.forall_mem_append.mpr ⟨fun w h => good_of_word (List.all_eq_true.mp (by decide +kernel : (([.constant RJ6 265 1431655765, .constant RJ6 266 858993459, .constant RJ6 267 252645135] : List Cond)).all goodWord = true) w h), fun _ h => absurd h List.not_mem_nil⟩⟩
set_option maxHeartbeats 4000000 in
set_option maxRecDepth 100000 in
theorem k_J6_bitCount_0f7a4 (l : Launch) (D : va_G) (cC cI cZ : ClassId) (sz : Nat) : Met l yJ6_bitCount_0f7a4 sw_k_J6_bitCount_0f7a4 ({ frames := 2, cells := 0, slots := 0, locals := 100 }) (va_Pc [.int 0] (kPre D cC cI cZ [] sz)) (va_Qi (fun (r : Int32) (_ : Unit) => r = 0) (fun _ _ => True) (fun _ => False)) 0 0 (fun _ => False) := by
  refine Met.ofW (cc := cJ6_bitCount_0f7a4) (maxL := 1) (ret := (some .int)) (by decide) rfl ?_
  intro p e s m args below meth c s₁ B hml hv
  obtain ⟨rfl, hsz, hP, hK, hD0⟩ := hv
  have hx := B.exec
  have hb := B.bytes
  have hr := B.returns
  have hts := atoms_spec (ws := sw_k_J6_bitCount_0f7a4) B.pre
  have hown : s.vm.findClass RJ6 = some m.cls := findClass_of_methodNamed B.named
  have hlocks := B.notSynchronized
  subst hsz
  have hD := hD0
  have hS : va_S (fun _ => False) s.heap s.heap [] := va_S.rf
  have hl := lv_entry ([.int 0]) (n := 1) (Nat.le_of_ble_eq_true rfl)
  rw [lg_entry_eq]
  generalize (lg_sl ([.int 0]) ++ List.replicate (1 - (lg_sl ([.int 0])).length) Slot.unset).toArray = ls at hl ⊢
  have hl : lv_has ls 1 [(0, .int 0)] := hl
  refine lv_iload_n hx hb dJ6_bitCount_0f7a4_0 rfl (lv_at hl 0 rfl) ?_
  refine lv_iload_n hx hb dJ6_bitCount_0f7a4_1 rfl (lv_at hl 0 rfl) ?_
  refine lv_iconst (v := 1) hx hb dJ6_bitCount_0f7a4_2 (by decide) ?_
  refine lv_iushr (v := 0) hx hb dJ6_bitCount_0f7a4_3 (by decide) ?_
  refine lv_ldcw (v := 1431655765) hx hb hown (hts (.constant RJ6 265 1431655765) (by decide +kernel)) dJ6_bitCount_0f7a4_4 ?_
  refine lv_iand hx hb dJ6_bitCount_0f7a4_7 ?_
  refine kt_eq (y := 0) (by decide +kernel) ?_
  refine lv_isub hx hb dJ6_bitCount_0f7a4_8 ?_
  refine kt_eq (y := 0) (by decide +kernel) ?_
  refine lv_istore_n (lv' := [(0, .int 0)]) hx hb dJ6_bitCount_0f7a4_9 rfl hl (by decide) rfl (fun ls hl => ?_)
  refine lv_iload_n hx hb dJ6_bitCount_0f7a4_10 rfl (lv_at hl 0 rfl) ?_
  refine lv_ldcw (v := 858993459) hx hb hown (hts (.constant RJ6 266 858993459) (by decide +kernel)) dJ6_bitCount_0f7a4_11 ?_
  refine lv_iand hx hb dJ6_bitCount_0f7a4_14 ?_
  refine kt_eq (y := 0) (by decide +kernel) ?_
  refine lv_iload_n hx hb dJ6_bitCount_0f7a4_15 rfl (lv_at hl 0 rfl) ?_
  refine lv_iconst (v := 2) hx hb dJ6_bitCount_0f7a4_16 (by decide) ?_
  refine lv_iushr (v := 0) hx hb dJ6_bitCount_0f7a4_17 (by decide) ?_
  refine lv_ldcw (v := 858993459) hx hb hown (hts (.constant RJ6 266 858993459) (by decide +kernel)) dJ6_bitCount_0f7a4_18 ?_
  refine lv_iand hx hb dJ6_bitCount_0f7a4_21 ?_
  refine kt_eq (y := 0) (by decide +kernel) ?_
  refine lv_iadd hx hb dJ6_bitCount_0f7a4_22 ?_
  refine kt_eq (y := 0) (by decide +kernel) ?_
  refine lv_istore_n (lv' := [(0, .int 0)]) hx hb dJ6_bitCount_0f7a4_23 rfl hl (by decide) rfl (fun ls hl => ?_)
  refine lv_iload_n hx hb dJ6_bitCount_0f7a4_24 rfl (lv_at hl 0 rfl) ?_
  refine lv_iload_n hx hb dJ6_bitCount_0f7a4_25 rfl (lv_at hl 0 rfl) ?_
  refine lv_iconst (v := 4) hx hb dJ6_bitCount_0f7a4_26 (by decide) ?_
  refine lv_iushr (v := 0) hx hb dJ6_bitCount_0f7a4_27 (by decide) ?_
  refine lv_iadd hx hb dJ6_bitCount_0f7a4_28 ?_
  refine kt_eq (y := 0) (by decide +kernel) ?_
  refine lv_ldcw (v := 252645135) hx hb hown (hts (.constant RJ6 267 252645135) (by decide +kernel)) dJ6_bitCount_0f7a4_29 ?_
  refine lv_iand hx hb dJ6_bitCount_0f7a4_32 ?_
  refine kt_eq (y := 0) (by decide +kernel) ?_
  refine lv_istore_n (lv' := [(0, .int 0)]) hx hb dJ6_bitCount_0f7a4_33 rfl hl (by decide) rfl (fun ls hl => ?_)
  refine lv_iload_n hx hb dJ6_bitCount_0f7a4_34 rfl (lv_at hl 0 rfl) ?_
  refine lv_iload_n hx hb dJ6_bitCount_0f7a4_35 rfl (lv_at hl 0 rfl) ?_
  refine lv_bipush (v := 8) hx hb dJ6_bitCount_0f7a4_36 (by decide) ?_
  refine lv_iushr (v := 0) hx hb dJ6_bitCount_0f7a4_38 (by decide) ?_
  refine lv_iadd hx hb dJ6_bitCount_0f7a4_39 ?_
  refine kt_eq (y := 0) (by decide +kernel) ?_
  refine lv_istore_n (lv' := [(0, .int 0)]) hx hb dJ6_bitCount_0f7a4_40 rfl hl (by decide) rfl (fun ls hl => ?_)
  refine lv_iload_n hx hb dJ6_bitCount_0f7a4_41 rfl (lv_at hl 0 rfl) ?_
  refine lv_iload_n hx hb dJ6_bitCount_0f7a4_42 rfl (lv_at hl 0 rfl) ?_
  refine lv_bipush (v := 16) hx hb dJ6_bitCount_0f7a4_43 (by decide) ?_
  refine lv_iushr (v := 0) hx hb dJ6_bitCount_0f7a4_45 (by decide) ?_
  refine lv_iadd hx hb dJ6_bitCount_0f7a4_46 ?_
  refine kt_eq (y := 0) (by decide +kernel) ?_
  refine lv_istore_n (lv' := [(0, .int 0)]) hx hb dJ6_bitCount_0f7a4_47 rfl hl (by decide) rfl (fun ls hl => ?_)
  refine lv_iload_n hx hb dJ6_bitCount_0f7a4_48 rfl (lv_at hl 0 rfl) ?_
  refine lv_bipush (v := 63) hx hb dJ6_bitCount_0f7a4_49 (by decide) ?_
  refine lv_iand hx hb dJ6_bitCount_0f7a4_51 ?_
  refine kt_eq (y := 0) (by decide +kernel) ?_
  exact W.iret (v := 0) hx hb hr (fun t ht hW => ⟨⟨0, (), rfl, rfl, trivial⟩, hS.F ht⟩) hS.2.2 dJ6_bitCount_0f7a4_52
def sw_k_X3_rankSizes : List Cond := .code yX3_rankSizes cX3_rankSizes 4 none :: (([.fieldLink RX3 22 "TopTurned$Rules" "told" "LTopTurned$Told;", .fieldLink RX3 50 "TopTurned$Told" "plates" "I", .methodLink RX3 58 yJ6_bitCount_0f7a4, .static yJ6_bitCount_0f7a4, .initialized RJ6, .fieldLink RX3 64 "TopTurned$Rules" "boardRank" "I"] : List Cond) ++ (wsX30 ++ (wsX60 ++ (sw_k_J6_bitCount_0f7a4 ++ (([] : List Cond))))))
theorem gd_k_X3_rankSizes : ∀ w ∈ sw_k_X3_rankSizes, (w.onTables && w.keeps) = true ∨ ∃ ty, w = .arrayClass ty := List.forall_mem_cons.mpr ⟨good_of_word rfl, List.forall_mem_append.mpr ⟨fun w h => good_of_word (List.all_eq_true.mp (by decide +kernel : (([.fieldLink RX3 22 "TopTurned$Rules" "told" "LTopTurned$Told;", .fieldLink RX3 50 "TopTurned$Told" "plates" "I", .methodLink RX3 58 yJ6_bitCount_0f7a4, .static yJ6_bitCount_0f7a4, .initialized RJ6, .fieldLink RX3 64 "TopTurned$Rules" "boardRank" "I"] : List Cond)).all goodWord = true) w h), List.forall_mem_append.mpr ⟨gw_X3, List.forall_mem_append.mpr ⟨gw_X6, List.forall_mem_append.mpr ⟨gd_k_J6_bitCount_0f7a4, fun _ h => absurd h List.not_mem_nil⟩⟩⟩⟩⟩
theorem iw_k_X3_rankSizes_X3 : ∀ w ∈ wsX30, w ∈ sw_k_X3_rankSizes := fun _ h => List.mem_cons_of_mem _ (List.mem_append_right _ (List.mem_append_left _ h))
theorem iw_k_X3_rankSizes_X6 : ∀ w ∈ wsX60, w ∈ sw_k_X3_rankSizes := fun _ h => List.mem_cons_of_mem _ (List.mem_append_right _ (List.mem_append_right _ (List.mem_append_left _ h)))
theorem gc_k_X3_rankSizes_k_J6_bitCount_0f7a4 : GoodIn sw_k_X3_rankSizes sw_k_J6_bitCount_0f7a4 := fun w h => ⟨List.mem_cons_of_mem _ (List.mem_append_right _ (List.mem_append_right _ (List.mem_append_right _ (List.mem_append_left _ h)))), gd_k_J6_bitCount_0f7a4 w h⟩
set_option maxHeartbeats 4000000 in
set_option maxRecDepth 100000 in
theorem k_X3_rankSizes (l : Launch) (D : va_G) (cC cI cZ : ClassId) (h0 h1 h2 h3 h4 h5 h6 h7 h8 h9 h10 h11 : Nat) (sz : Nat) (p1 : Int32) : Met l yX3_rankSizes sw_k_X3_rankSizes ({ frames := 4, cells := 0, slots := 0, locals := 200 }) (va_Pc [.ref h0] (kPre D cC cI cZ [(h0, .inr (3, [.ref h1, .ref h2, .ref h3, .ref h4, .ref h5, .int 0])), (h1, .inr (6, [.int 0, .ref h6, .ref h7, .int p1, .int 5, .int 9, .int 0, .int 1, .int 0, .int 0, .ref h8, .ref h9, .int 0, .ref h10, .int 0, .ref h11, .int 0]))] sz)) (va_Qv (fun (_ : Unit) => True) (fun _ t => va_P D vwCl [(h0, .inr (3, [.ref h1, .ref h2, .ref h3, .ref h4, .ref h5, .int 0])), (h1, .inr (6, [.int 0, .ref h6, .ref h7, .int p1, .int 5, .int 9, .int 0, .int 1, .int 0, .int 0, .ref h8, .ref h9, .int 0, .ref h10, .int 0, .ref h11, .int 0]))] t.heap ∧ va_D (va_A [(h0, .inr (3, [.ref h1, .ref h2, .ref h3, .ref h4, .ref h5, .int 0])), (h1, .inr (6, [.int 0, .ref h6, .ref h7, .int p1, .int 5, .int 9, .int 0, .int 1, .int 0, .int 0, .ref h8, .ref h9, .int 0, .ref h10, .int 0, .ref h11, .int 0]))] sz) [(h0, .inr (3, [.ref h1, .ref h2, .ref h3, .ref h4, .ref h5, .int 0])), (h1, .inr (6, [.int 0, .ref h6, .ref h7, .int p1, .int 5, .int 9, .int 0, .int 1, .int 0, .int 0, .ref h8, .ref h9, .int 0, .ref h10, .int 0, .ref h11, .int 0]))]) (va_A [(h0, .inr (3, [.ref h1, .ref h2, .ref h3, .ref h4, .ref h5, .int 0])), (h1, .inr (6, [.int 0, .ref h6, .ref h7, .int p1, .int 5, .int 9, .int 0, .int 1, .int 0, .int 0, .ref h8, .ref h9, .int 0, .ref h10, .int 0, .ref h11, .int 0]))] sz)) 0 0 (va_A [(h0, .inr (3, [.ref h1, .ref h2, .ref h3, .ref h4, .ref h5, .int 0])), (h1, .inr (6, [.int 0, .ref h6, .ref h7, .int p1, .int 5, .int 9, .int 0, .int 1, .int 0, .int 0, .ref h8, .ref h9, .int 0, .ref h10, .int 0, .ref h11, .int 0]))] sz) := by
  refine Met.ofW (cc := cX3_rankSizes) (maxL := 4) (ret := none) (by decide) rfl ?_
  intro p e s m args below meth c s₁ B hml hv
  obtain ⟨rfl, hsz, hP, hK, hD0⟩ := hv
  have hx := B.exec
  have hb := B.bytes
  have hr := B.returns
  have hts := atoms_spec (ws := sw_k_X3_rankSizes) B.pre
  have hown : s.vm.findClass RX3 = some m.cls := findClass_of_methodNamed B.named
  have hlocks := B.notSynchronized
  subst hsz
  have hD := hD0.self (sz := s.heap.size)
  generalize hAe : va_A [(h0, .inr (3, [.ref h1, .ref h2, .ref h3, .ref h4, .ref h5, .int 0])), (h1, .inr (6, [.int 0, .ref h6, .ref h7, .int p1, .int 5, .int 9, .int 0, .int 1, .int 0, .int 0, .ref h8, .ref h9, .int 0, .ref h10, .int 0, .ref h11, .int 0]))] s.heap.size = A at hD ⊢
  have hA : ∀ q : Nat, s.heap.size ≤ q → A q := fun q h => by rw [← hAe]; exact Or.inr h
  have hS : va_S A s.heap s.heap [] := va_S.rf
  have hl := lv_entry ([.ref h0]) (n := 4) (Nat.le_of_ble_eq_true rfl)
  rw [lg_entry_eq]
  generalize (lg_sl ([.ref h0]) ++ List.replicate (4 - (lg_sl ([.ref h0])).length) Slot.unset).toArray = ls at hl ⊢
  have hl : lv_has ls 4 [(0, .ref h0)] := hl
  refine lv_iconst (v := 0) hx hb dX3_rankSizes_0 (by decide) ?_
  refine lv_istore_n (lv' := [(1, .int 0), (0, .ref h0)]) hx hb dX3_rankSizes_1 rfl hl (by decide) rfl (fun ls hl => ?_)
  refine lv_iconst (v := 0) hx hb dX3_rankSizes_2 (by decide) ?_
  refine lv_istore_n (lv' := [(2, .int 0), (1, .int 0), (0, .ref h0)]) hx hb dX3_rankSizes_3 rfl hl (by decide) rfl (fun ls hl => ?_)
  refine lv_iload_n hx hb dX3_rankSizes_4 rfl (lv_at hl 0 rfl) ?_
  refine lv_aload_n hx hb dX3_rankSizes_5 rfl (lv_at hl 2 rfl) ?_
  refine va_get (D := D) (ci := 3) (v := .ref h1) (C := RX3) (T := TX3) (N := 6) hx hb hts iw_k_X3_rankSizes_X3 hown hK hP 0 rfl rfl 0 (by decide) (hts (.fieldLink RX3 22 "TopTurned$Rules" "told" "LTopTurned$Told;") (by decide +kernel)) (fun _ h9 => h9) rfl dX3_rankSizes_6 ?_
  refine va_get (D := D) (ci := 6) (v := .int 0) (C := RX6) (T := TX6) (N := 17) hx hb hts iw_k_X3_rankSizes_X6 hown hK hP 1 rfl rfl 0 (by decide) (hts (.fieldLink RX3 50 "TopTurned$Told" "plates" "I") (by decide +kernel)) (fun _ h9 => h9) rfl dX3_rankSizes_9 ?_
  refine lv_icmp_ge (tgt := 35) hx hb dX3_rankSizes_12 (by decide) (fun _ => ?_) (fun c => absurd (by decide) c)
  refine lv_iconst (v := 0) hx hb dX3_rankSizes_35 (by decide) ?_
  refine lv_istore_n (lv' := [(2, .int 0), (1, .int 0), (0, .ref h0)]) hx hb dX3_rankSizes_36 rfl hl (by decide) rfl (fun ls hl => ?_)
  refine lv_iload_n hx hb dX3_rankSizes_37 rfl (lv_at hl 0 rfl) ?_
  refine lv_aload_n hx hb dX3_rankSizes_38 rfl (lv_at hl 2 rfl) ?_
  refine va_get (D := D) (ci := 3) (v := .ref h1) (C := RX3) (T := TX3) (N := 6) hx hb hts iw_k_X3_rankSizes_X3 hown hK hP 0 rfl rfl 0 (by decide) (hts (.fieldLink RX3 22 "TopTurned$Rules" "told" "LTopTurned$Told;") (by decide +kernel)) (fun _ h9 => h9) rfl dX3_rankSizes_39 ?_
  refine va_get (D := D) (ci := 6) (v := .int 0) (C := RX6) (T := TX6) (N := 17) hx hb hts iw_k_X3_rankSizes_X6 hown hK hP 1 rfl rfl 0 (by decide) (hts (.fieldLink RX3 50 "TopTurned$Told" "plates" "I") (by decide +kernel)) (fun _ h9 => h9) rfl dX3_rankSizes_42 ?_
  refine lv_icmp_ge (tgt := 80) hx hb dX3_rankSizes_45 (by decide) (fun _ => ?_) (fun c => absurd (by decide) c)
  refine lv_aload_n hx hb dX3_rankSizes_80 rfl (lv_at hl 2 rfl) ?_
  refine lv_iload_n hx hb dX3_rankSizes_81 rfl (lv_at hl 1 rfl) ?_
  have hPc := hP.sub (ws' := []) [] rfl
  have hDc := hD.sub (ws' := []) [] (by decide) rfl
  refine va_calli (va_runS (As := [.int 0]) (rest := [.ref h0]) ⟨hx, hb, hml, hown, hts⟩ (k_J6_bitCount_0f7a4 l D cC cI cZ  s.heap.size ) (va_cwS 1 hts (goodIn_app (goodIn_of _ (by decide +kernel)) gc_k_X3_rankSizes_k_J6_bitCount_0f7a4) rfl rfl rfl (by decide +kernel) ⟨(Nat.le_of_ble_eq_true rfl), (Nat.le_of_ble_eq_true rfl)⟩) (kPreS hK hPc hDc) rfl rfl hl.1 rfl (lv_room (Nat.le_of_ble_eq_true rfl)) dX3_rankSizes_82 ⟨(Nat.le_of_ble_eq_true rfl), (Nat.le_of_ble_eq_true rfl)⟩) hS (fun q _ h => False.elim h) (fun q h => False.elim h) (fun r1 u t H1 locs ht hvm hw hB hz1 hk1 hS => ?_)
  have hP := hP.kept (H1 := H1) (fun k q hk => hk1 q.1 (hP k q hk).lt (fun h => h))
  generalize H1 = H at hP hS ⊢
  have hw : r1 = 0 := hw
  subst hw
  refine va_put (D := D) (ci := 3) (v := .int 0) (ty := .int) (C := RX3) (T := TX3) (N := 6) hx hb hts iw_k_X3_rankSizes_X3 tyX3 tyX3_ok nmX3 hown hK hP hD hS 0 rfl rfl 5 (by decide) (hts (.fieldLink RX3 64 "TopTurned$Rules" "boardRank" "I") (by decide +kernel)) (fun _ h9 => h9) rfl (by decide +kernel) rfl rfl (Nat.le_of_ble_eq_true rfl) dX3_rankSizes_85 (fun H locs hP hD hS => ?_)
  have hP : va_P D vwCl [(h0, .inr (3, [.ref h1, .ref h2, .ref h3, .ref h4, .ref h5, .int 0])), (h1, .inr (6, [.int 0, .ref h6, .ref h7, .int p1, .int 5, .int 9, .int 0, .int 1, .int 0, .int 0, .ref h8, .ref h9, .int 0, .ref h10, .int 0, .ref h11, .int 0]))] H := hP
  have hD : va_D A [(h0, .inr (3, [.ref h1, .ref h2, .ref h3, .ref h4, .ref h5, .int 0])), (h1, .inr (6, [.int 0, .ref h6, .ref h7, .int p1, .int 5, .int 9, .int 0, .int 1, .int 0, .int 0, .ref h8, .ref h9, .int 0, .ref h10, .int 0, .ref h11, .int 0]))] := hD
  refine W.widen (k := 0) (n := 0) (Nat.le_of_ble_eq_true rfl) (Nat.le_of_ble_eq_true rfl) ?_
  have hP9 := hP.sub (ws' := [(h0, .inr (3, [.ref h1, .ref h2, .ref h3, .ref h4, .ref h5, .int 0])), (h1, .inr (6, [.int 0, .ref h6, .ref h7, .int p1, .int 5, .int 9, .int 0, .int 1, .int 0, .int 0, .ref h8, .ref h9, .int 0, .ref h10, .int 0, .ref h11, .int 0]))]) [0, 1] rfl
  have hD9 := hD.sub (ws' := [(h0, .inr (3, [.ref h1, .ref h2, .ref h3, .ref h4, .ref h5, .int 0])), (h1, .inr (6, [.int 0, .ref h6, .ref h7, .int p1, .int 5, .int 9, .int 0, .int 1, .int 0, .int 0, .ref h8, .ref h9, .int 0, .ref h10, .int 0, .ref h11, .int 0]))]) [0, 1] (by decide) rfl
  exact W.vret hx hb hr (fun t ht hW => ⟨⟨(), rfl, trivial, ⟨by rw [ht]; exact hP9, hD9⟩⟩, hS.F ht⟩) hS.2.2 dX3_rankSizes_88
def sw_k_X3_isSorted : List Cond := .code yX3_isSorted cX3_isSorted 3 (some .boolean) :: (([.fieldLink RX3 26 "TopTurned$Rules" "space" "LTopTurned$Space;", .fieldLink RX3 67 "TopTurned$Space" "plates" "I"] : List Cond) ++ (wsX30 ++ (wsX50 ++ (([] : List Cond)))))
theorem gd_k_X3_isSorted : ∀ w ∈ sw_k_X3_isSorted, (w.onTables && w.keeps) = true ∨ ∃ ty, w = .arrayClass ty := List.forall_mem_cons.mpr ⟨good_of_word rfl, List.forall_mem_append.mpr ⟨fun w h => good_of_word (List.all_eq_true.mp (by decide +kernel : (([.fieldLink RX3 26 "TopTurned$Rules" "space" "LTopTurned$Space;", .fieldLink RX3 67 "TopTurned$Space" "plates" "I"] : List Cond)).all goodWord = true) w h), List.forall_mem_append.mpr ⟨gw_X3, List.forall_mem_append.mpr ⟨gw_X5, fun _ h => absurd h List.not_mem_nil⟩⟩⟩⟩
theorem iw_k_X3_isSorted_X3 : ∀ w ∈ wsX30, w ∈ sw_k_X3_isSorted := fun _ h => List.mem_cons_of_mem _ (List.mem_append_right _ (List.mem_append_left _ h))
theorem iw_k_X3_isSorted_X5 : ∀ w ∈ wsX50, w ∈ sw_k_X3_isSorted := fun _ h => List.mem_cons_of_mem _ (List.mem_append_right _ (List.mem_append_right _ (List.mem_append_left _ h)))
set_option maxHeartbeats 4000000 in
set_option maxRecDepth 100000 in
theorem k_X3_isSorted (l : Launch) (D : va_G) (cC cI cZ : ClassId) (h0 h1 h2 h3 h4 h5 h6 h7 h8 h9 h10 h11 : Nat) (sz : Nat) : Met l yX3_isSorted sw_k_X3_isSorted ({ frames := 2, cells := 0, slots := 0, locals := 100 }) (va_Pc [.ref h0, .int 0] (kPre D cC cI cZ [(h0, .inr (3, [.ref h2, .ref h1, .ref h3, .ref h4, .ref h5, .int 0])), (h1, .inr (5, [.int 0, .int 1, .int 1, .int 1, .int 0, .ref h6, .ref h7, .ref h8, .ref h9, .ref h10, .ref h11]))] sz)) (va_Qi (fun (r : Int32) (_ : Unit) => r = 1) (fun _ _ => True) (fun _ => False)) 0 0 (fun _ => False) := by
  refine Met.ofW (cc := cX3_isSorted) (maxL := 3) (ret := (some .boolean)) (by decide) rfl ?_
  intro p e s m args below meth c s₁ B hml hv
  obtain ⟨rfl, hsz, hP, hK, hD0⟩ := hv
  have hx := B.exec
  have hb := B.bytes
  have hr := B.returns
  have hts := atoms_spec (ws := sw_k_X3_isSorted) B.pre
  have hown : s.vm.findClass RX3 = some m.cls := findClass_of_methodNamed B.named
  have hlocks := B.notSynchronized
  subst hsz
  have hD := hD0
  have hS : va_S (fun _ => False) s.heap s.heap [] := va_S.rf
  have hl := lv_entry ([.ref h0, .int 0]) (n := 3) (Nat.le_of_ble_eq_true rfl)
  rw [lg_entry_eq]
  generalize (lg_sl ([.ref h0, .int 0]) ++ List.replicate (3 - (lg_sl ([.ref h0, .int 0])).length) Slot.unset).toArray = ls at hl ⊢
  have hl : lv_has ls 3 [(0, .ref h0), (1, .int 0)] := hl
  refine lv_iconst (v := 1) hx hb dX3_isSorted_0 (by decide) ?_
  refine lv_istore_n (lv' := [(2, .int 1), (0, .ref h0), (1, .int 0)]) hx hb dX3_isSorted_1 rfl hl (by decide) rfl (fun ls hl => ?_)
  refine lv_iload_n hx hb dX3_isSorted_2 rfl (lv_at hl 0 rfl) ?_
  refine lv_aload_n hx hb dX3_isSorted_3 rfl (lv_at hl 1 rfl) ?_
  refine va_get (D := D) (ci := 3) (v := .ref h1) (C := RX3) (T := TX3) (N := 6) hx hb hts iw_k_X3_isSorted_X3 hown hK hP 0 rfl rfl 1 (by decide) (hts (.fieldLink RX3 26 "TopTurned$Rules" "space" "LTopTurned$Space;") (by decide +kernel)) (fun _ h9 => h9) rfl dX3_isSorted_4 ?_
  refine va_get (D := D) (ci := 5) (v := .int 0) (C := RX5) (T := TX5) (N := 11) hx hb hts iw_k_X3_isSorted_X5 hown hK hP 1 rfl rfl 0 (by decide) (hts (.fieldLink RX3 67 "TopTurned$Space" "plates" "I") (by decide +kernel)) (fun _ h9 => h9) rfl dX3_isSorted_7 ?_
  refine lv_icmp_ge (tgt := 38) hx hb dX3_isSorted_10 (by decide) (fun _ => ?_) (fun c => absurd (by decide) c)
  refine lv_iconst (v := 1) hx hb dX3_isSorted_38 (by decide) ?_
  exact W.zret (v := 1) hx hb hr rfl (fun t ht hW => ⟨⟨1, (), rfl, rfl, trivial⟩, hS.F ht⟩) hS.2.2 dX3_isSorted_39
def sw_k_X3_settle : List Cond := .code yX3_settle cX3_settle 3 none :: (([.methodLink RX3 30 yX3_rankSizes, .instanceMethod yX3_rankSizes, .selects RX3 yX3_rankSizes yX3_rankSizes, .initialized RX3, .fieldLink RX3 26 "TopTurned$Rules" "space" "LTopTurned$Space;", .fieldLink RX3 33 "TopTurned$Space" "orders" "I", .fieldLink RX3 15 "TopTurned$Rules" "sorted" "[Z", .methodLink RX3 39 yX3_isSorted, .instanceMethod yX3_isSorted, .selects RX3 yX3_isSorted yX3_isSorted, .fieldLink RX3 43 "TopTurned$Space" "turns" "I"] : List Cond) ++ (sw_k_X3_rankSizes ++ (wsX30 ++ (wsX50 ++ (sw_k_X3_isSorted ++ (([] : List Cond)))))))
theorem gd_k_X3_settle : ∀ w ∈ sw_k_X3_settle, (w.onTables && w.keeps) = true ∨ ∃ ty, w = .arrayClass ty := List.forall_mem_cons.mpr ⟨good_of_word rfl, List.forall_mem_append.mpr ⟨fun w h => good_of_word (List.all_eq_true.mp (by decide +kernel : (([.methodLink RX3 30 yX3_rankSizes, .instanceMethod yX3_rankSizes, .selects RX3 yX3_rankSizes yX3_rankSizes, .initialized RX3, .fieldLink RX3 26 "TopTurned$Rules" "space" "LTopTurned$Space;", .fieldLink RX3 33 "TopTurned$Space" "orders" "I", .fieldLink RX3 15 "TopTurned$Rules" "sorted" "[Z", .methodLink RX3 39 yX3_isSorted, .instanceMethod yX3_isSorted, .selects RX3 yX3_isSorted yX3_isSorted, .fieldLink RX3 43 "TopTurned$Space" "turns" "I"] : List Cond)).all goodWord = true) w h), List.forall_mem_append.mpr ⟨gd_k_X3_rankSizes, List.forall_mem_append.mpr ⟨gw_X3, List.forall_mem_append.mpr ⟨gw_X5, List.forall_mem_append.mpr ⟨gd_k_X3_isSorted, fun _ h => absurd h List.not_mem_nil⟩⟩⟩⟩⟩⟩
theorem gc_k_X3_settle_k_X3_rankSizes : GoodIn sw_k_X3_settle sw_k_X3_rankSizes := fun w h => ⟨List.mem_cons_of_mem _ (List.mem_append_right _ (List.mem_append_left _ h)), gd_k_X3_rankSizes w h⟩
theorem iw_k_X3_settle_X3 : ∀ w ∈ wsX30, w ∈ sw_k_X3_settle := fun _ h => List.mem_cons_of_mem _ (List.mem_append_right _ (List.mem_append_right _ (List.mem_append_left _ h)))
theorem iw_k_X3_settle_X5 : ∀ w ∈ wsX50, w ∈ sw_k_X3_settle := fun _ h => List.mem_cons_of_mem _ (List.mem_append_right _ (List.mem_append_right _ (List.mem_append_right _ (List.mem_append_left _ h))))
theorem gc_k_X3_settle_k_X3_isSorted : GoodIn sw_k_X3_settle sw_k_X3_isSorted := fun w h => ⟨List.mem_cons_of_mem _ (List.mem_append_right _ (List.mem_append_right _ (List.mem_append_right _ (List.mem_append_right _ (List.mem_append_left _ h))))), gd_k_X3_isSorted w h⟩
set_option maxHeartbeats 4000000 in
set_option maxRecDepth 100000 in
theorem k_X3_settle (l : Launch) (D : va_G) (cC cI cZ : ClassId) (h0 h1 h2 h3 h4 h5 h6 h7 h8 h9 h10 h11 h12 h13 h14 h15 h16 h17 : Nat) (sz : Nat) (p1 : Int32) : Met l yX3_settle sw_k_X3_settle ({ frames := 6, cells := 0, slots := 0, locals := 300 }) (va_Pc [.ref h0] (kPre D cC cI cZ [(h0, .inr (3, [.ref h1, .ref h2, .ref h4, .ref h3, .ref h5, .int 0])), (h1, .inr (6, [.int 0, .ref h6, .ref h7, .int p1, .int 5, .int 9, .int 0, .int 1, .int 0, .int 0, .ref h8, .ref h9, .int 0, .ref h10, .int 0, .ref h11, .int 0])), (h2, .inr (5, [.int 0, .int 1, .int 1, .int 1, .int 0, .ref h12, .ref h13, .ref h14, .ref h15, .ref h16, .ref h17])), (h3, .inl (cZ, 120, .inl (upd (fun _ => 0) (Int32.toNatClampNeg 0) (vp_nar .boolean 1))))] sz)) (va_Qv (fun (_ : Unit) => True) (fun _ t => va_P D vwCl [(h2, .inr (5, [.int 0, .int 1, .int 1, .int 1, .int 0, .ref h12, .ref h13, .ref h14, .ref h15, .ref h16, .ref h17])), (h3, .inl (cZ, 120, .inl (upd (upd (fun _ => 0) (Int32.toNatClampNeg 0) (vp_nar .boolean 1)) (Int32.toNatClampNeg 0) (vp_nar .boolean 1)))), (h0, .inr (3, [.ref h1, .ref h2, .ref h4, .ref h3, .ref h5, .int 0])), (h1, .inr (6, [.int 0, .ref h6, .ref h7, .int p1, .int 5, .int 9, .int 0, .int 1, .int 0, .int 0, .ref h8, .ref h9, .int 0, .ref h10, .int 0, .ref h11, .int 0]))] t.heap ∧ va_D (va_A [(h0, .inr (3, [.ref h1, .ref h2, .ref h4, .ref h3, .ref h5, .int 0])), (h1, .inr (6, [.int 0, .ref h6, .ref h7, .int p1, .int 5, .int 9, .int 0, .int 1, .int 0, .int 0, .ref h8, .ref h9, .int 0, .ref h10, .int 0, .ref h11, .int 0])), (h2, .inr (5, [.int 0, .int 1, .int 1, .int 1, .int 0, .ref h12, .ref h13, .ref h14, .ref h15, .ref h16, .ref h17])), (h3, .inl (cZ, 120, .inl (upd (fun _ => 0) (Int32.toNatClampNeg 0) (vp_nar .boolean 1))))] sz) [(h2, .inr (5, [.int 0, .int 1, .int 1, .int 1, .int 0, .ref h12, .ref h13, .ref h14, .ref h15, .ref h16, .ref h17])), (h3, .inl (cZ, 120, .inl (upd (upd (fun _ => 0) (Int32.toNatClampNeg 0) (vp_nar .boolean 1)) (Int32.toNatClampNeg 0) (vp_nar .boolean 1)))), (h0, .inr (3, [.ref h1, .ref h2, .ref h4, .ref h3, .ref h5, .int 0])), (h1, .inr (6, [.int 0, .ref h6, .ref h7, .int p1, .int 5, .int 9, .int 0, .int 1, .int 0, .int 0, .ref h8, .ref h9, .int 0, .ref h10, .int 0, .ref h11, .int 0]))]) (va_A [(h0, .inr (3, [.ref h1, .ref h2, .ref h4, .ref h3, .ref h5, .int 0])), (h1, .inr (6, [.int 0, .ref h6, .ref h7, .int p1, .int 5, .int 9, .int 0, .int 1, .int 0, .int 0, .ref h8, .ref h9, .int 0, .ref h10, .int 0, .ref h11, .int 0])), (h2, .inr (5, [.int 0, .int 1, .int 1, .int 1, .int 0, .ref h12, .ref h13, .ref h14, .ref h15, .ref h16, .ref h17])), (h3, .inl (cZ, 120, .inl (upd (fun _ => 0) (Int32.toNatClampNeg 0) (vp_nar .boolean 1))))] sz)) 0 0 (va_A [(h0, .inr (3, [.ref h1, .ref h2, .ref h4, .ref h3, .ref h5, .int 0])), (h1, .inr (6, [.int 0, .ref h6, .ref h7, .int p1, .int 5, .int 9, .int 0, .int 1, .int 0, .int 0, .ref h8, .ref h9, .int 0, .ref h10, .int 0, .ref h11, .int 0])), (h2, .inr (5, [.int 0, .int 1, .int 1, .int 1, .int 0, .ref h12, .ref h13, .ref h14, .ref h15, .ref h16, .ref h17])), (h3, .inl (cZ, 120, .inl (upd (fun _ => 0) (Int32.toNatClampNeg 0) (vp_nar .boolean 1))))] sz) := by
  refine Met.ofW (cc := cX3_settle) (maxL := 3) (ret := none) (by decide) rfl ?_
  intro p e s m args below meth c s₁ B hml hv
  obtain ⟨rfl, hsz, hP, hK, hD0⟩ := hv
  have hx := B.exec
  have hb := B.bytes
  have hr := B.returns
  have hts := atoms_spec (ws := sw_k_X3_settle) B.pre
  have hown : s.vm.findClass RX3 = some m.cls := findClass_of_methodNamed B.named
  have hlocks := B.notSynchronized
  subst hsz
  have hD := hD0.self (sz := s.heap.size)
  generalize hAe : va_A [(h0, .inr (3, [.ref h1, .ref h2, .ref h4, .ref h3, .ref h5, .int 0])), (h1, .inr (6, [.int 0, .ref h6, .ref h7, .int p1, .int 5, .int 9, .int 0, .int 1, .int 0, .int 0, .ref h8, .ref h9, .int 0, .ref h10, .int 0, .ref h11, .int 0])), (h2, .inr (5, [.int 0, .int 1, .int 1, .int 1, .int 0, .ref h12, .ref h13, .ref h14, .ref h15, .ref h16, .ref h17])), (h3, .inl (cZ, 120, .inl (upd (fun _ => 0) (Int32.toNatClampNeg 0) (vp_nar .boolean 1))))] s.heap.size = A at hD ⊢
  have hA : ∀ q : Nat, s.heap.size ≤ q → A q := fun q h => by rw [← hAe]; exact Or.inr h
  have hS : va_S A s.heap s.heap [] := va_S.rf
  have hl := lv_entry ([.ref h0]) (n := 3) (Nat.le_of_ble_eq_true rfl)
  rw [lg_entry_eq]
  generalize (lg_sl ([.ref h0]) ++ List.replicate (3 - (lg_sl ([.ref h0])).length) Slot.unset).toArray = ls at hl ⊢
  have hl : lv_has ls 3 [(0, .ref h0)] := hl
  refine lv_aload_n hx hb dX3_settle_0 rfl (lv_at hl 0 rfl) ?_
  have hPc := hP.sub (ws' := [(h0, .inr (3, [.ref h1, .ref h2, .ref h4, .ref h3, .ref h5, .int 0])), (h1, .inr (6, [.int 0, .ref h6, .ref h7, .int p1, .int 5, .int 9, .int 0, .int 1, .int 0, .int 0, .ref h8, .ref h9, .int 0, .ref h10, .int 0, .ref h11, .int 0]))]) [0, 1] rfl
  have hDc := hD.sub (ws' := [(h0, .inr (3, [.ref h1, .ref h2, .ref h4, .ref h3, .ref h5, .int 0])), (h1, .inr (6, [.int 0, .ref h6, .ref h7, .int p1, .int 5, .int 9, .int 0, .int 1, .int 0, .int 0, .ref h8, .ref h9, .int 0, .ref h10, .int 0, .ref h11, .int 0]))]) [0, 1] (by decide) rfl
  have hFc := va_free (wc := [(h0, .inr (3, [.ref h1, .ref h2, .ref h4, .ref h3, .ref h5, .int 0])), (h1, .inr (6, [.int 0, .ref h6, .ref h7, .int p1, .int 5, .int 9, .int 0, .int 1, .int 0, .int 0, .ref h8, .ref h9, .int 0, .ref h10, .int 0, .ref h11, .int 0]))]) hD hS hA [0, 1] rfl
  refine va_callv (va_runV (As := []) (rest := []) ⟨hx, hb, hml, hown, hts⟩ (k_X3_rankSizes l D cC cI cZ h0 h1 h2 h4 h3 h5 h6 h7 h8 h9 h10 h11 s.heap.size p1) (cwV (C := RX3) 0 hts (goodIn_app (goodIn_of _ (by decide +kernel)) gc_k_X3_settle_k_X3_rankSizes) rfl rfl rfl (by decide +kernel) ⟨(Nat.le_of_ble_eq_true rfl), (Nat.le_of_ble_eq_true rfl)⟩) (kPreV hK hPc hDc (va_recv hK hPc (ci := 3) (q0 := 0) rfl rfl)) rfl rfl hl.1 rfl (lv_room (Nat.le_of_ble_eq_true rfl)) dX3_settle_1 ⟨(Nat.le_of_ble_eq_true rfl), (Nat.le_of_ble_eq_true rfl)⟩) hS (fun q _ h => hFc q h) hFc (fun u t H1 locs ht hvm hw hB hz1 hk1 hS => ?_)
  obtain ⟨hP1, hD1⟩ := hB
  rw [ht] at hP1
  obtain ⟨hP, hD⟩ := va_join (wr := [(h2, .inr (5, [.int 0, .int 1, .int 1, .int 1, .int 0, .ref h12, .ref h13, .ref h14, .ref h15, .ref h16, .ref h17])), (h3, .inl (cZ, 120, .inl (upd (fun _ => 0) (Int32.toNatClampNeg 0) (vp_nar .boolean 1))))]) (w1 := [(h0, .inr (3, [.ref h1, .ref h2, .ref h4, .ref h3, .ref h5, .int 0])), (h1, .inr (6, [.int 0, .ref h6, .ref h7, .int p1, .int 5, .int 9, .int 0, .int 1, .int 0, .int 0, .ref h8, .ref h9, .int 0, .ref h10, .int 0, .ref h11, .int 0]))]) hP hD [0, 1] [2, 3] rfl rfl (by decide) (by decide) hk1 hFc hP1 hD1
  generalize H1 = H at hP hS ⊢
  have hP : va_P D vwCl [(h2, .inr (5, [.int 0, .int 1, .int 1, .int 1, .int 0, .ref h12, .ref h13, .ref h14, .ref h15, .ref h16, .ref h17])), (h3, .inl (cZ, 120, .inl (upd (fun _ => 0) (Int32.toNatClampNeg 0) (vp_nar .boolean 1)))), (h0, .inr (3, [.ref h1, .ref h2, .ref h4, .ref h3, .ref h5, .int 0])), (h1, .inr (6, [.int 0, .ref h6, .ref h7, .int p1, .int 5, .int 9, .int 0, .int 1, .int 0, .int 0, .ref h8, .ref h9, .int 0, .ref h10, .int 0, .ref h11, .int 0]))] H := hP
  have hD : va_D A [(h2, .inr (5, [.int 0, .int 1, .int 1, .int 1, .int 0, .ref h12, .ref h13, .ref h14, .ref h15, .ref h16, .ref h17])), (h3, .inl (cZ, 120, .inl (upd (fun _ => 0) (Int32.toNatClampNeg 0) (vp_nar .boolean 1)))), (h0, .inr (3, [.ref h1, .ref h2, .ref h4, .ref h3, .ref h5, .int 0])), (h1, .inr (6, [.int 0, .ref h6, .ref h7, .int p1, .int 5, .int 9, .int 0, .int 1, .int 0, .int 0, .ref h8, .ref h9, .int 0, .ref h10, .int 0, .ref h11, .int 0]))] := hD
  refine lv_iconst (v := 0) hx hb dX3_settle_4 (by decide) ?_
  refine lv_istore_n (lv' := [(1, .int 0), (0, .ref h0)]) hx hb dX3_settle_5 rfl hl (by decide) rfl (fun ls hl => ?_)
  refine lv_iload_n hx hb dX3_settle_6 rfl (lv_at hl 0 rfl) ?_
  refine lv_aload_n hx hb dX3_settle_7 rfl (lv_at hl 1 rfl) ?_
  refine va_get (D := D) (ci := 3) (v := .ref h2) (C := RX3) (T := TX3) (N := 6) hx hb hts iw_k_X3_settle_X3 hown hK hP 2 rfl rfl 1 (by decide) (hts (.fieldLink RX3 26 "TopTurned$Rules" "space" "LTopTurned$Space;") (by decide +kernel)) (fun _ h9 => h9) rfl dX3_settle_8 ?_
  refine va_get (D := D) (ci := 5) (v := .int 1) (C := RX5) (T := TX5) (N := 11) hx hb hts iw_k_X3_settle_X5 hown hK hP 0 rfl rfl 1 (by decide) (hts (.fieldLink RX3 33 "TopTurned$Space" "orders" "I") (by decide +kernel)) (fun _ h9 => h9) rfl dX3_settle_11 ?_
  refine lv_icmp_ge (tgt := 70) hx hb dX3_settle_14 (by decide) (fun c => absurd c (by decide)) (fun _ => ?_)
  refine lv_aload_n hx hb dX3_settle_17 rfl (lv_at hl 1 rfl) ?_
  refine va_get (D := D) (ci := 3) (v := .ref h3) (C := RX3) (T := TX3) (N := 6) hx hb hts iw_k_X3_settle_X3 hown hK hP 2 rfl rfl 3 (by decide) (hts (.fieldLink RX3 15 "TopTurned$Rules" "sorted" "[Z") (by decide +kernel)) (fun _ h9 => h9) rfl dX3_settle_18 ?_
  refine lv_iload_n hx hb dX3_settle_21 rfl (lv_at hl 0 rfl) ?_
  refine lv_aload_n hx hb dX3_settle_22 rfl (lv_at hl 1 rfl) ?_
  refine lv_iload_n hx hb dX3_settle_23 rfl (lv_at hl 0 rfl) ?_
  have hPc := hP.sub (ws' := [(h0, .inr (3, [.ref h1, .ref h2, .ref h4, .ref h3, .ref h5, .int 0])), (h2, .inr (5, [.int 0, .int 1, .int 1, .int 1, .int 0, .ref h12, .ref h13, .ref h14, .ref h15, .ref h16, .ref h17]))]) [2, 0] rfl
  have hDc := hD.sub (ws' := [(h0, .inr (3, [.ref h1, .ref h2, .ref h4, .ref h3, .ref h5, .int 0])), (h2, .inr (5, [.int 0, .int 1, .int 1, .int 1, .int 0, .ref h12, .ref h13, .ref h14, .ref h15, .ref h16, .ref h17]))]) [2, 0] (by decide) rfl
  refine va_calli (va_runV (As := [.int 0]) (rest := [.int 0, .ref h3]) ⟨hx, hb, hml, hown, hts⟩ (k_X3_isSorted l D cC cI cZ h0 h2 h1 h4 h3 h5 h12 h13 h14 h15 h16 h17 H.size ) (cwV (C := RX3) 1 hts (goodIn_app (goodIn_of _ (by decide +kernel)) gc_k_X3_settle_k_X3_isSorted) rfl rfl rfl (by decide +kernel) ⟨(Nat.le_of_ble_eq_true rfl), (Nat.le_of_ble_eq_true rfl)⟩) (kPreV hK hPc hDc (va_recv hK hPc (ci := 3) (q0 := 0) rfl rfl)) rfl rfl hl.1 rfl (lv_room (Nat.le_of_ble_eq_true rfl)) dX3_settle_24 ⟨(Nat.le_of_ble_eq_true rfl), (Nat.le_of_ble_eq_true rfl)⟩) hS (fun q _ h => False.elim h) (fun q h => False.elim h) (fun r1 u t H1 locs ht hvm hw hB hz1 hk1 hS => ?_)
  have hP := hP.kept (H1 := H1) (fun k q hk => hk1 q.1 (hP k q hk).lt (fun h => h))
  generalize H1 = H at hP hS ⊢
  have hw : r1 = 1 := hw
  subst hw
  refine va_zast (i := 0) (x := 1) hx hb hK hP hD hS 1 2 rfl rfl (vp_in_iff.mpr (by decide)) dX3_settle_27 (fun H locs hP hD hS => ?_)
  have hP : va_P D vwCl [(h2, .inr (5, [.int 0, .int 1, .int 1, .int 1, .int 0, .ref h12, .ref h13, .ref h14, .ref h15, .ref h16, .ref h17])), (h3, .inl (cZ, 120, .inl (upd (upd (fun _ => 0) (Int32.toNatClampNeg 0) (vp_nar .boolean 1)) (Int32.toNatClampNeg 0) (vp_nar .boolean 1)))), (h0, .inr (3, [.ref h1, .ref h2, .ref h4, .ref h3, .ref h5, .int 0])), (h1, .inr (6, [.int 0, .ref h6, .ref h7, .int p1, .int 5, .int 9, .int 0, .int 1, .int 0, .int 0, .ref h8, .ref h9, .int 0, .ref h10, .int 0, .ref h11, .int 0]))] H := hP
  have hD : va_D A [(h2, .inr (5, [.int 0, .int 1, .int 1, .int 1, .int 0, .ref h12, .ref h13, .ref h14, .ref h15, .ref h16, .ref h17])), (h3, .inl (cZ, 120, .inl (upd (upd (fun _ => 0) (Int32.toNatClampNeg 0) (vp_nar .boolean 1)) (Int32.toNatClampNeg 0) (vp_nar .boolean 1)))), (h0, .inr (3, [.ref h1, .ref h2, .ref h4, .ref h3, .ref h5, .int 0])), (h1, .inr (6, [.int 0, .ref h6, .ref h7, .int p1, .int 5, .int 9, .int 0, .int 1, .int 0, .int 0, .ref h8, .ref h9, .int 0, .ref h10, .int 0, .ref h11, .int 0]))] := hD
  refine lv_iconst (v := 0) hx hb dX3_settle_28 (by decide) ?_
  refine lv_istore_n (lv' := [(2, .int 0), (1, .int 0), (0, .ref h0)]) hx hb dX3_settle_29 rfl hl (by decide) rfl (fun ls hl => ?_)
  refine lv_iload_n hx hb dX3_settle_30 rfl (lv_at hl 0 rfl) ?_
  refine lv_aload_n hx hb dX3_settle_31 rfl (lv_at hl 2 rfl) ?_
  refine va_get (D := D) (ci := 3) (v := .ref h2) (C := RX3) (T := TX3) (N := 6) hx hb hts iw_k_X3_settle_X3 hown hK hP 2 rfl rfl 1 (by decide) (hts (.fieldLink RX3 26 "TopTurned$Rules" "space" "LTopTurned$Space;") (by decide +kernel)) (fun _ h9 => h9) rfl dX3_settle_32 ?_
  refine va_get (D := D) (ci := 5) (v := .int 0) (C := RX5) (T := TX5) (N := 11) hx hb hts iw_k_X3_settle_X5 hown hK hP 0 rfl rfl 4 (by decide) (hts (.fieldLink RX3 43 "TopTurned$Space" "turns" "I") (by decide +kernel)) (fun _ h9 => h9) rfl dX3_settle_35 ?_
  refine lv_icmp_ge (tgt := 64) hx hb dX3_settle_38 (by decide) (fun _ => ?_) (fun c => absurd (by decide) c)
  refine lv_iinc (v := 1) (lv' := [(1, .int 1), (2, .int 0), (0, .ref h0)]) hx hb dX3_settle_64 hl (k := 1) rfl (by decide) (by decide) rfl (fun ls hl => ?_)
  refine lv_goto (tgt := 6) hx hb dX3_settle_67 (by decide) ?_
  refine lv_iload_n hx hb dX3_settle_6 rfl (lv_at hl 0 rfl) ?_
  refine lv_aload_n hx hb dX3_settle_7 rfl (lv_at hl 2 rfl) ?_
  refine va_get (D := D) (ci := 3) (v := .ref h2) (C := RX3) (T := TX3) (N := 6) hx hb hts iw_k_X3_settle_X3 hown hK hP 2 rfl rfl 1 (by decide) (hts (.fieldLink RX3 26 "TopTurned$Rules" "space" "LTopTurned$Space;") (by decide +kernel)) (fun _ h9 => h9) rfl dX3_settle_8 ?_
  refine va_get (D := D) (ci := 5) (v := .int 1) (C := RX5) (T := TX5) (N := 11) hx hb hts iw_k_X3_settle_X5 hown hK hP 0 rfl rfl 1 (by decide) (hts (.fieldLink RX3 33 "TopTurned$Space" "orders" "I") (by decide +kernel)) (fun _ h9 => h9) rfl dX3_settle_11 ?_
  refine lv_icmp_ge (tgt := 70) hx hb dX3_settle_14 (by decide) (fun _ => ?_) (fun c => absurd (by decide) c)
  refine W.widen (k := 0) (n := 0) (Nat.le_of_ble_eq_true rfl) (Nat.le_of_ble_eq_true rfl) ?_
  have hP9 := hP.sub (ws' := [(h2, .inr (5, [.int 0, .int 1, .int 1, .int 1, .int 0, .ref h12, .ref h13, .ref h14, .ref h15, .ref h16, .ref h17])), (h3, .inl (cZ, 120, .inl (upd (upd (fun _ => 0) (Int32.toNatClampNeg 0) (vp_nar .boolean 1)) (Int32.toNatClampNeg 0) (vp_nar .boolean 1)))), (h0, .inr (3, [.ref h1, .ref h2, .ref h4, .ref h3, .ref h5, .int 0])), (h1, .inr (6, [.int 0, .ref h6, .ref h7, .int p1, .int 5, .int 9, .int 0, .int 1, .int 0, .int 0, .ref h8, .ref h9, .int 0, .ref h10, .int 0, .ref h11, .int 0]))]) [0, 1, 2, 3] rfl
  have hD9 := hD.sub (ws' := [(h2, .inr (5, [.int 0, .int 1, .int 1, .int 1, .int 0, .ref h12, .ref h13, .ref h14, .ref h15, .ref h16, .ref h17])), (h3, .inl (cZ, 120, .inl (upd (upd (fun _ => 0) (Int32.toNatClampNeg 0) (vp_nar .boolean 1)) (Int32.toNatClampNeg 0) (vp_nar .boolean 1)))), (h0, .inr (3, [.ref h1, .ref h2, .ref h4, .ref h3, .ref h5, .int 0])), (h1, .inr (6, [.int 0, .ref h6, .ref h7, .int p1, .int 5, .int 9, .int 0, .int 1, .int 0, .int 0, .ref h8, .ref h9, .int 0, .ref h10, .int 0, .ref h11, .int 0]))]) [0, 1, 2, 3] (by decide) rfl
  exact W.vret hx hb hr (fun t ht hW => ⟨⟨(), rfl, trivial, ⟨by rw [ht]; exact hP9, hD9⟩⟩, hS.F ht⟩) hS.2.2 dX3_settle_70
def sw_k_X1_forget : List Cond := .code yX1_forget cX1_forget 1 none :: (([.fieldLink RX1 41 "TopTurned$Chart" "measured" "Z", .fieldLink RX1 45 "TopTurned$Chart" "priced" "Z"] : List Cond) ++ (wsX10 ++ (([] : List Cond))))
theorem gd_k_X1_forget : ∀ w ∈ sw_k_X1_forget, (w.onTables && w.keeps) = true ∨ ∃ ty, w = .arrayClass ty := List.forall_mem_cons.mpr ⟨good_of_word rfl, List.forall_mem_append.mpr ⟨fun w h => good_of_word (List.all_eq_true.mp (by decide +kernel : (([.fieldLink RX1 41 "TopTurned$Chart" "measured" "Z", .fieldLink RX1 45 "TopTurned$Chart" "priced" "Z"] : List Cond)).all goodWord = true) w h), List.forall_mem_append.mpr ⟨gw_X1, fun _ h => absurd h List.not_mem_nil⟩⟩⟩
theorem iw_k_X1_forget_X1 : ∀ w ∈ wsX10, w ∈ sw_k_X1_forget := fun _ h => List.mem_cons_of_mem _ (List.mem_append_right _ (List.mem_append_left _ h))
set_option maxHeartbeats 4000000 in
set_option maxRecDepth 100000 in
theorem k_X1_forget (l : Launch) (D : va_G) (cC cI cZ : ClassId) (h0 h1 h2 h3 h4 h5 h6 h7 : Nat) (sz : Nat) : Met l yX1_forget sw_k_X1_forget ({ frames := 2, cells := 0, slots := 0, locals := 100 }) (va_Pc [.ref h0] (kPre D cC cI cZ [(h0, .inr (1, [.ref h1, .ref h2, .ref h3, .ref h4, .ref h5, .ref h6, .ref h7, .int 0, .int 0]))] sz)) (va_Qv (fun (_ : Unit) => True) (fun _ t => va_P D vwCl [(h0, .inr (1, [.ref h1, .ref h2, .ref h3, .ref h4, .ref h5, .ref h6, .ref h7, .int 0, .int 0]))] t.heap ∧ va_D (va_A [(h0, .inr (1, [.ref h1, .ref h2, .ref h3, .ref h4, .ref h5, .ref h6, .ref h7, .int 0, .int 0]))] sz) [(h0, .inr (1, [.ref h1, .ref h2, .ref h3, .ref h4, .ref h5, .ref h6, .ref h7, .int 0, .int 0]))]) (va_A [(h0, .inr (1, [.ref h1, .ref h2, .ref h3, .ref h4, .ref h5, .ref h6, .ref h7, .int 0, .int 0]))] sz)) 0 0 (va_A [(h0, .inr (1, [.ref h1, .ref h2, .ref h3, .ref h4, .ref h5, .ref h6, .ref h7, .int 0, .int 0]))] sz) := by
  refine Met.ofW (cc := cX1_forget) (maxL := 1) (ret := none) (by decide) rfl ?_
  intro p e s m args below meth c s₁ B hml hv
  obtain ⟨rfl, hsz, hP, hK, hD0⟩ := hv
  have hx := B.exec
  have hb := B.bytes
  have hr := B.returns
  have hts := atoms_spec (ws := sw_k_X1_forget) B.pre
  have hown : s.vm.findClass RX1 = some m.cls := findClass_of_methodNamed B.named
  have hlocks := B.notSynchronized
  subst hsz
  have hD := hD0.self (sz := s.heap.size)
  generalize hAe : va_A [(h0, .inr (1, [.ref h1, .ref h2, .ref h3, .ref h4, .ref h5, .ref h6, .ref h7, .int 0, .int 0]))] s.heap.size = A at hD ⊢
  have hA : ∀ q : Nat, s.heap.size ≤ q → A q := fun q h => by rw [← hAe]; exact Or.inr h
  have hS : va_S A s.heap s.heap [] := va_S.rf
  have hl := lv_entry ([.ref h0]) (n := 1) (Nat.le_of_ble_eq_true rfl)
  rw [lg_entry_eq]
  generalize (lg_sl ([.ref h0]) ++ List.replicate (1 - (lg_sl ([.ref h0])).length) Slot.unset).toArray = ls at hl ⊢
  have hl : lv_has ls 1 [(0, .ref h0)] := hl
  refine lv_aload_n hx hb dX1_forget_0 rfl (lv_at hl 0 rfl) ?_
  refine lv_iconst (v := 0) hx hb dX1_forget_1 (by decide) ?_
  refine va_put (D := D) (ci := 1) (v := .int 0) (ty := .boolean) (C := RX1) (T := TX1) (N := 9) hx hb hts iw_k_X1_forget_X1 tyX1 tyX1_ok nmX1 hown hK hP hD hS 0 rfl rfl 7 (by decide) (hts (.fieldLink RX1 41 "TopTurned$Chart" "measured" "Z") (by decide +kernel)) (fun _ h9 => h9) rfl (by decide +kernel) rfl rfl (Nat.le_of_ble_eq_true rfl) dX1_forget_2 (fun H locs hP hD hS => ?_)
  have hP : va_P D vwCl [(h0, .inr (1, [.ref h1, .ref h2, .ref h3, .ref h4, .ref h5, .ref h6, .ref h7, .int 0, .int 0]))] H := hP
  have hD : va_D A [(h0, .inr (1, [.ref h1, .ref h2, .ref h3, .ref h4, .ref h5, .ref h6, .ref h7, .int 0, .int 0]))] := hD
  refine lv_aload_n hx hb dX1_forget_5 rfl (lv_at hl 0 rfl) ?_
  refine lv_iconst (v := 0) hx hb dX1_forget_6 (by decide) ?_
  refine va_put (D := D) (ci := 1) (v := .int 0) (ty := .boolean) (C := RX1) (T := TX1) (N := 9) hx hb hts iw_k_X1_forget_X1 tyX1 tyX1_ok nmX1 hown hK hP hD hS 0 rfl rfl 8 (by decide) (hts (.fieldLink RX1 45 "TopTurned$Chart" "priced" "Z") (by decide +kernel)) (fun _ h9 => h9) rfl (by decide +kernel) rfl rfl (Nat.le_of_ble_eq_true rfl) dX1_forget_7 (fun H locs hP hD hS => ?_)
  have hP : va_P D vwCl [(h0, .inr (1, [.ref h1, .ref h2, .ref h3, .ref h4, .ref h5, .ref h6, .ref h7, .int 0, .int 0]))] H := hP
  have hD : va_D A [(h0, .inr (1, [.ref h1, .ref h2, .ref h3, .ref h4, .ref h5, .ref h6, .ref h7, .int 0, .int 0]))] := hD
  refine W.widen (k := 0) (n := 0) (Nat.le_of_ble_eq_true rfl) (Nat.le_of_ble_eq_true rfl) ?_
  have hP9 := hP.sub (ws' := [(h0, .inr (1, [.ref h1, .ref h2, .ref h3, .ref h4, .ref h5, .ref h6, .ref h7, .int 0, .int 0]))]) [0] rfl
  have hD9 := hD.sub (ws' := [(h0, .inr (1, [.ref h1, .ref h2, .ref h3, .ref h4, .ref h5, .ref h6, .ref h7, .int 0, .int 0]))]) [0] (by decide) rfl
  exact W.vret hx hb hr (fun t ht hW => ⟨⟨(), rfl, trivial, ⟨by rw [ht]; exact hP9, hD9⟩⟩, hS.F ht⟩) hS.2.2 dX1_forget_10
