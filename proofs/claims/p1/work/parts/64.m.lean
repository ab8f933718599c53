def sw_k_X10_tell_3 : List Cond := .code yX10_tell cX10_tell 2 none :: (([.methodLink RX10 205 yX10_costs, .instanceMethod yX10_costs, .selects RX10 yX10_costs yX10_costs, .initialized RX10] : List Cond) ++ (sw_k_X10_costs ++ (([] : List Cond))))
theorem gd_k_X10_tell_3 : ∀ w ∈ sw_k_X10_tell_3, (w.onTables && w.keeps) = true ∨ ∃ ty, w = .arrayClass ty := List.forall_mem_cons.mpr ⟨good_of_word rfl, List.forall_mem_append.mpr ⟨fun w h => good_of_word (List.all_eq_true.mp (by decide +kernel : (([.methodLink RX10 205 yX10_costs, .instanceMethod yX10_costs, .selects RX10 yX10_costs yX10_costs, .initialized RX10] : List Cond)).all goodWord = true) w h), List.forall_mem_append.mpr ⟨gd_k_X10_costs, fun _ h => absurd h List.not_mem_nil⟩⟩⟩
theorem gc_k_X10_tell_3_k_X10_costs : GoodIn sw_k_X10_tell_3 sw_k_X10_costs := fun w h => ⟨List.mem_cons_of_mem _ (List.mem_append_right _ (List.mem_append_left _ h)), gd_k_X10_costs w h⟩
set_option maxHeartbeats 4000000 in
set_option maxRecDepth 100000 in
theorem k_X10_tell_3 (l : Launch) (D : va_G) (cC cI cZ : ClassId) (h0 h1 h2 h3 h4 h5 h6 h7 h8 h9 h10 h11 h12 h13 h14 h15 h16 h17 h18 h19 h20 h21 h22 h23 h24 h25 : Nat) (sz : Nat) : Met l yX10_tell sw_k_X10_tell_3 ({ frames := 6, cells := 0, slots := 0, locals := 300 }) (va_Pc [.ref h0, .int 3] (kPre D cC cI cZ [(h0, .inr (10, [.ref h3, .ref h1, .ref h4, .ref h5, .ref h6, .ref h7, .ref h8, .int 0, .ref h9, .ref h10, .ref h11, .ref h12, .ref h13, .ref h14, .ref h15, .int 0, .int 0, .int 0, .ref h16, .ref h17, .int 0, .int 0, .int 0, .ref h18, .ref h19, .ref h20, .ref h21, .ref h22, .ref h2, .ref h23, .int 0, .ref h24, .int 0, .ref h25])), (h1, .inl (cI, 9, .inl (upd (upd (upd (fun _ => 0) (Int32.toNatClampNeg 3) 5) (Int32.toNatClampNeg 4) 9) (Int32.toNatClampNeg 7) 1))), (h2, .inl (cI, 3840, .inl (fun _ => 0)))] sz)) (va_Qv (fun (_ : Unit) => True) (fun _ t => va_P D vwCl [(h0, .inr (10, [.ref h3, .ref h1, .ref h4, .ref h5, .ref h6, .ref h7, .ref h8, .int 0, .ref h9, .ref h10, .ref h11, .ref h12, .ref h13, .ref h14, .ref h15, .int 0, .int 0, .int 0, .ref h16, .ref h17, .int 0, .int 0, .int 0, .ref h18, .ref h19, .ref h20, .ref h21, .ref h22, .ref h2, .ref h23, .int 0, .ref h24, .int 0, .ref h25])), (h1, .inl (cI, 9, .inl (upd (upd (upd (fun _ => 0) (Int32.toNatClampNeg 3) 5) (Int32.toNatClampNeg 4) 9) (Int32.toNatClampNeg 7) 1))), (h2, .inl (cI, 3840, .inl (fun _ => 0)))] t.heap ∧ va_D (va_A [(h0, .inr (10, [.ref h3, .ref h1, .ref h4, .ref h5, .ref h6, .ref h7, .ref h8, .int 0, .ref h9, .ref h10, .ref h11, .ref h12, .ref h13, .ref h14, .ref h15, .int 0, .int 0, .int 0, .ref h16, .ref h17, .int 0, .int 0, .int 0, .ref h18, .ref h19, .ref h20, .ref h21, .ref h22, .ref h2, .ref h23, .int 0, .ref h24, .int 0, .ref h25])), (h1, .inl (cI, 9, .inl (upd (upd (upd (fun _ => 0) (Int32.toNatClampNeg 3) 5) (Int32.toNatClampNeg 4) 9) (Int32.toNatClampNeg 7) 1))), (h2, .inl (cI, 3840, .inl (fun _ => 0)))] sz) [(h0, .inr (10, [.ref h3, .ref h1, .ref h4, .ref h5, .ref h6, .ref h7, .ref h8, .int 0, .ref h9, .ref h10, .ref h11, .ref h12, .ref h13, .ref h14, .ref h15, .int 0, .int 0, .int 0, .ref h16, .ref h17, .int 0, .int 0, .int 0, .ref h18, .ref h19, .ref h20, .ref h21, .ref h22, .ref h2, .ref h23, .int 0, .ref h24, .int 0, .ref h25])), (h1, .inl (cI, 9, .inl (upd (upd (upd (fun _ => 0) (Int32.toNatClampNeg 3) 5) (Int32.toNatClampNeg 4) 9) (Int32.toNatClampNeg 7) 1))), (h2, .inl (cI, 3840, .inl (fun _ => 0)))]) (va_A [(h0, .inr (10, [.ref h3, .ref h1, .ref h4, .ref h5, .ref h6, .ref h7, .ref h8, .int 0, .ref h9, .ref h10, .ref h11, .ref h12, .ref h13, .ref h14, .ref h15, .int 0, .int 0, .int 0, .ref h16, .ref h17, .int 0, .int 0, .int 0, .ref h18, .ref h19, .ref h20, .ref h21, .ref h22, .ref h2, .ref h23, .int 0, .ref h24, .int 0, .ref h25])), (h1, .inl (cI, 9, .inl (upd (upd (upd (fun _ => 0) (Int32.toNatClampNeg 3) 5) (Int32.toNatClampNeg 4) 9) (Int32.toNatClampNeg 7) 1))), (h2, .inl (cI, 3840, .inl (fun _ => 0)))] sz)) 0 0 (va_A [(h0, .inr (10, [.ref h3, .ref h1, .ref h4, .ref h5, .ref h6, .ref h7, .ref h8, .int 0, .ref h9, .ref h10, .ref h11, .ref h12, .ref h13, .ref h14, .ref h15, .int 0, .int 0, .int 0, .ref h16, .ref h17, .int 0, .int 0, .int 0, .ref h18, .ref h19, .ref h20, .ref h21, .ref h22, .ref h2, .ref h23, .int 0, .ref h24, .int 0, .ref h25])), (h1, .inl (cI, 9, .inl (upd (upd (upd (fun _ => 0) (Int32.toNatClampNeg 3) 5) (Int32.toNatClampNeg 4) 9) (Int32.toNatClampNeg 7) 1))), (h2, .inl (cI, 3840, .inl (fun _ => 0)))] sz) := by
  refine Met.ofW (cc := cX10_tell) (maxL := 2) (ret := none) (by decide) rfl ?_
  intro p e s m args below meth c s₁ B hml hv
  obtain ⟨rfl, hsz, hP, hK, hD0⟩ := hv
  have hx := B.exec
  have hb := B.bytes
  have hr := B.returns
  have hts := atoms_spec (ws := sw_k_X10_tell_3) B.pre
  have hown : s.vm.findClass RX10 = some m.cls := findClass_of_methodNamed B.named
  have hlocks := B.notSynchronized
  subst hsz
  have hD := hD0.self (sz := s.heap.size)
  generalize hAe : va_A [(h0, .inr (10, [.ref h3, .ref h1, .ref h4, .ref h5, .ref h6, .ref h7, .ref h8, .int 0, .ref h9, .ref h10, .ref h11, .ref h12, .ref h13, .ref h14, .ref h15, .int 0, .int 0, .int 0, .ref h16, .ref h17, .int 0, .int 0, .int 0, .ref h18, .ref h19, .ref h20, .ref h21, .ref h22, .ref h2, .ref h23, .int 0, .ref h24, .int 0, .ref h25])), (h1, .inl (cI, 9, .inl (upd (upd (upd (fun _ => 0) (Int32.toNatClampNeg 3) 5) (Int32.toNatClampNeg 4) 9) (Int32.toNatClampNeg 7) 1))), (h2, .inl (cI, 3840, .inl (fun _ => 0)))] s.heap.size = A at hD ⊢
  have hA : ∀ q : Nat, s.heap.size ≤ q → A q := fun q h => by rw [← hAe]; exact Or.inr h
  have hS : va_S A s.heap s.heap [] := va_S.rf
  have hl := lv_entry ([.ref h0, .int 3]) (n := 2) (Nat.le_of_ble_eq_true rfl)
  rw [lg_entry_eq]
  generalize (lg_sl ([.ref h0, .int 3]) ++ List.replicate (2 - (lg_sl ([.ref h0, .int 3])).length) Slot.unset).toArray = ls at hl ⊢
  have hl : lv_has ls 2 [(0, .ref h0), (1, .int 3)] := hl
  refine lv_iload_n hx hb dX10_tell_0 rfl (lv_at hl 1 rfl) ?_
  refine lv_iconst (v := 2) hx hb dX10_tell_1 (by decide) ?_
  refine lv_icmp_ne (tgt := 12) hx hb dX10_tell_2 (by decide) (fun _ => ?_) (fun c => absurd c (by decide))
  refine lv_iload_n hx hb dX10_tell_12 rfl (lv_at hl 1 rfl) ?_
  refine lv_iconst (v := 3) hx hb dX10_tell_13 (by decide) ?_
  refine lv_icmp_ne (tgt := 21) hx hb dX10_tell_14 (by decide) (fun c => absurd (by decide) c) (fun _ => ?_)
  refine lv_aload_n hx hb dX10_tell_17 rfl (lv_at hl 0 rfl) ?_
  have hPc := hP.sub (ws' := [(h0, .inr (10, [.ref h3, .ref h1, .ref h4, .ref h5, .ref h6, .ref h7, .ref h8, .int 0, .ref h9, .ref h10, .ref h11, .ref h12, .ref h13, .ref h14, .ref h15, .int 0, .int 0, .int 0, .ref h16, .ref h17, .int 0, .int 0, .int 0, .ref h18, .ref h19, .ref h20, .ref h21, .ref h22, .ref h2, .ref h23, .int 0, .ref h24, .int 0, .ref h25])), (h1, .inl (cI, 9, .inl (upd (upd (upd (fun _ => 0) (Int32.toNatClampNeg 3) 5) (Int32.toNatClampNeg 4) 9) (Int32.toNatClampNeg 7) 1))), (h2, .inl (cI, 3840, .inl (fun _ => 0)))]) [0, 1, 2] rfl
  have hDc := hD.sub (ws' := [(h0, .inr (10, [.ref h3, .ref h1, .ref h4, .ref h5, .ref h6, .ref h7, .ref h8, .int 0, .ref h9, .ref h10, .ref h11, .ref h12, .ref h13, .ref h14, .ref h15, .int 0, .int 0, .int 0, .ref h16, .ref h17, .int 0, .int 0, .int 0, .ref h18, .ref h19, .ref h20, .ref h21, .ref h22, .ref h2, .ref h23, .int 0, .ref h24, .int 0, .ref h25])), (h1, .inl (cI, 9, .inl (upd (upd (upd (fun _ => 0) (Int32.toNatClampNeg 3) 5) (Int32.toNatClampNeg 4) 9) (Int32.toNatClampNeg 7) 1))), (h2, .inl (cI, 3840, .inl (fun _ => 0)))]) [0, 1, 2] (by decide) rfl
  have hFc := va_free (wc := [(h0, .inr (10, [.ref h3, .ref h1, .ref h4, .ref h5, .ref h6, .ref h7, .ref h8, .int 0, .ref h9, .ref h10, .ref h11, .ref h12, .ref h13, .ref h14, .ref h15, .int 0, .int 0, .int 0, .ref h16, .ref h17, .int 0, .int 0, .int 0, .ref h18, .ref h19, .ref h20, .ref h21, .ref h22, .ref h2, .ref h23, .int 0, .ref h24, .int 0, .ref h25])), (h1, .inl (cI, 9, .inl (upd (upd (upd (fun _ => 0) (Int32.toNatClampNeg 3) 5) (Int32.toNatClampNeg 4) 9) (Int32.toNatClampNeg 7) 1))), (h2, .inl (cI, 3840, .inl (fun _ => 0)))]) hD hS hA [0, 1, 2] rfl
  refine va_callv (va_runV (As := []) (rest := []) ⟨hx, hb, hml, hown, hts⟩ (k_X10_costs l D cC cI cZ h0 h1 h2 h3 h4 h5 h6 h7 h8 h9 h10 h11 h12 h13 h14 h15 h16 h17 h18 h19 h20 h21 h22 h23 h24 h25 s.heap.size ) (cwV (C := RX10) 0 hts (goodIn_app (goodIn_of _ (by decide +kernel)) gc_k_X10_tell_3_k_X10_costs) rfl rfl rfl (by decide +kernel) ⟨(Nat.le_of_ble_eq_true rfl), (Nat.le_of_ble_eq_true rfl)⟩) (kPreV hK hPc hDc (va_recv hK hPc (ci := 10) (q0 := 0) rfl rfl)) rfl rfl hl.1 rfl (lv_room (Nat.le_of_ble_eq_true rfl)) dX10_tell_18 ⟨(Nat.le_of_ble_eq_true rfl), (Nat.le_of_ble_eq_true rfl)⟩) hS (fun q _ h => hFc q h) hFc (fun u t H1 locs ht hvm hw hB hz1 hk1 hS => ?_)
  obtain ⟨hP1, hD1⟩ := hB
  rw [ht] at hP1
  obtain ⟨hP, hD⟩ := va_join (wr := []) (w1 := [(h0, .inr (10, [.ref h3, .ref h1, .ref h4, .ref h5, .ref h6, .ref h7, .ref h8, .int 0, .ref h9, .ref h10, .ref h11, .ref h12, .ref h13, .ref h14, .ref h15, .int 0, .int 0, .int 0, .ref h16, .ref h17, .int 0, .int 0, .int 0, .ref h18, .ref h19, .ref h20, .ref h21, .ref h22, .ref h2, .ref h23, .int 0, .ref h24, .int 0, .ref h25])), (h1, .inl (cI, 9, .inl (upd (upd (upd (fun _ => 0) (Int32.toNatClampNeg 3) 5) (Int32.toNatClampNeg 4) 9) (Int32.toNatClampNeg 7) 1))), (h2, .inl (cI, 3840, .inl (fun _ => 0)))]) hP hD [0, 1, 2] [] rfl rfl (by decide) (by decide) hk1 hFc hP1 hD1
  generalize H1 = H at hP hS ⊢
  have hP : va_P D vwCl [(h0, .inr (10, [.ref h3, .ref h1, .ref h4, .ref h5, .ref h6, .ref h7, .ref h8, .int 0, .ref h9, .ref h10, .ref h11, .ref h12, .ref h13, .ref h14, .ref h15, .int 0, .int 0, .int 0, .ref h16, .ref h17, .int 0, .int 0, .int 0, .ref h18, .ref h19, .ref h20, .ref h21, .ref h22, .ref h2, .ref h23, .int 0, .ref h24, .int 0, .ref h25])), (h1, .inl (cI, 9, .inl (upd (upd (upd (fun _ => 0) (Int32.toNatClampNeg 3) 5) (Int32.toNatClampNeg 4) 9) (Int32.toNatClampNeg 7) 1))), (h2, .inl (cI, 3840, .inl (fun _ => 0)))] H := hP
  have hD : va_D A [(h0, .inr (10, [.ref h3, .ref h1, .ref h4, .ref h5, .ref h6, .ref h7, .ref h8, .int 0, .ref h9, .ref h10, .ref h11, .ref h12, .ref h13, .ref h14, .ref h15, .int 0, .int 0, .int 0, .ref h16, .ref h17, .int 0, .int 0, .int 0, .ref h18, .ref h19, .ref h20, .ref h21, .ref h22, .ref h2, .ref h23, .int 0, .ref h24, .int 0, .ref h25])), (h1, .inl (cI, 9, .inl (upd (upd (upd (fun _ => 0) (Int32.toNatClampNeg 3) 5) (Int32.toNatClampNeg 4) 9) (Int32.toNatClampNeg 7) 1))), (h2, .inl (cI, 3840, .inl (fun _ => 0)))] := hD
  refine W.widen (k := 0) (n := 0) (Nat.le_of_ble_eq_true rfl) (Nat.le_of_ble_eq_true rfl) ?_
  have hP9 := hP.sub (ws' := [(h0, .inr (10, [.ref h3, .ref h1, .ref h4, .ref h5, .ref h6, .ref h7, .ref h8, .int 0, .ref h9, .ref h10, .ref h11, .ref h12, .ref h13, .ref h14, .ref h15, .int 0, .int 0, .int 0, .ref h16, .ref h17, .int 0, .int 0, .int 0, .ref h18, .ref h19, .ref h20, .ref h21, .ref h22, .ref h2, .ref h23, .int 0, .ref h24, .int 0, .ref h25])), (h1, .inl (cI, 9, .inl (upd (upd (upd (fun _ => 0) (Int32.toNatClampNeg 3) 5) (Int32.toNatClampNeg 4) 9) (Int32.toNatClampNeg 7) 1))), (h2, .inl (cI, 3840, .inl (fun _ => 0)))]) [0, 1, 2] rfl
  have hD9 := hD.sub (ws' := [(h0, .inr (10, [.ref h3, .ref h1, .ref h4, .ref h5, .ref h6, .ref h7, .ref h8, .int 0, .ref h9, .ref h10, .ref h11, .ref h12, .ref h13, .ref h14, .ref h15, .int 0, .int 0, .int 0, .ref h16, .ref h17, .int 0, .int 0, .int 0, .ref h18, .ref h19, .ref h20, .ref h21, .ref h22, .ref h2, .ref h23, .int 0, .ref h24, .int 0, .ref h25])), (h1, .inl (cI, 9, .inl (upd (upd (upd (fun _ => 0) (Int32.toNatClampNeg 3) 5) (Int32.toNatClampNeg 4) 9) (Int32.toNatClampNeg 7) 1))), (h2, .inl (cI, 3840, .inl (fun _ => 0)))]) [0, 1, 2] (by decide) rfl
  exact W.vret hx hb hr (fun t ht hW => ⟨⟨(), rfl, trivial, ⟨by rw [ht]; exact hP9, hD9⟩⟩, hS.F ht⟩) hS.2.2 dX10_tell_21
def sw_k_X10_nextOf_3 : List Cond := .code yX10_nextOf cX10_nextOf 10 (some .int) :: (([.methodLink RX10 184 yX10_look_, .instanceMethod yX10_look_, .selects RX10 yX10_look_ yX10_look_, .initialized RX10, .methodLink RX10 174 yX10_isSorted, .instanceMethod yX10_isSorted, .selects RX10 yX10_isSorted yX10_isSorted] : List Cond) ++ (sw_k_X10_look_ ++ (sw_k_X10_isSorted ++ (([] : List Cond)))))
theorem gd_k_X10_nextOf_3 : ∀ w ∈ sw_k_X10_nextOf_3, (w.onTables && w.keeps) = true ∨ ∃ ty, w = .arrayClass ty := List.forall_mem_cons.mpr ⟨good_of_word rfl, List.forall_mem_append.mpr ⟨fun w h => good_of_word (List.all_eq_true.mp (by decide +kernel : (([.methodLink RX10 184 yX10_look_, .instanceMethod yX10_look_, .selects RX10 yX10_look_ yX10_look_, .initialized RX10, .methodLink RX10 174 yX10_isSorted, .instanceMethod yX10_isSorted, .selects RX10 yX10_isSorted yX10_isSorted] : List Cond)).all goodWord = true) w h), List.forall_mem_append.mpr ⟨gd_k_X10_look_, List.forall_mem_append.mpr ⟨gd_k_X10_isSorted, fun _ h => absurd h List.not_mem_nil⟩⟩⟩⟩
theorem gc_k_X10_nextOf_3_k_X10_look_ : GoodIn sw_k_X10_nextOf_3 sw_k_X10_look_ := fun w h => ⟨List.mem_cons_of_mem _ (List.mem_append_right _ (List.mem_append_left _ h)), gd_k_X10_look_ w h⟩
theorem gc_k_X10_nextOf_3_k_X10_isSorted : GoodIn sw_k_X10_nextOf_3 sw_k_X10_isSorted := fun w h => ⟨List.mem_cons_of_mem _ (List.mem_append_right _ (List.mem_append_right _ (List.mem_append_left _ h))), gd_k_X10_isSorted w h⟩
set_option maxHeartbeats 4000000 in
set_option maxRecDepth 100000 in
theorem k_X10_nextOf_3 (l : Launch) (D : va_G) (cC cI cZ : ClassId) (h0 h1 h2 h3 h4 h5 h6 h7 h8 h9 h10 h11 h12 h13 h14 h15 h16 h17 h18 h19 h20 h21 h22 h23 h24 h25 : Nat) (sz : Nat) : Met l yX10_nextOf sw_k_X10_nextOf_3 ({ frames := 4, cells := 0, slots := 0, locals := 200 }) (va_Pc [.ref h0, .int 3, .int 0] (kPre D cC cI cZ [(h0, .inr (10, [.ref h2, .ref h1, .ref h3, .ref h4, .ref h5, .ref h6, .ref h7, .int 0, .ref h8, .ref h9, .ref h10, .ref h11, .ref h12, .ref h13, .ref h14, .int 0, .int 0, .int 0, .ref h15, .ref h16, .int 0, .int 0, .int 0, .ref h17, .ref h18, .ref h19, .ref h20, .ref h21, .ref h22, .ref h23, .int 0, .ref h24, .int 0, .ref h25])), (h1, .inl (cI, 9, .inl (upd (upd (upd (fun _ => 0) (Int32.toNatClampNeg 3) 5) (Int32.toNatClampNeg 4) 9) (Int32.toNatClampNeg 7) 1)))] sz)) (va_Qi (fun (r : Int32) (_ : Unit) => r = (-9)) (fun _ _ => True) (fun _ => False)) 0 0 (fun _ => False) := by
  refine Met.ofW (cc := cX10_nextOf) (maxL := 10) (ret := (some .int)) (by decide) rfl ?_
  intro p e s m args below meth c s₁ B hml hv
  obtain ⟨rfl, hsz, hP, hK, hD0⟩ := hv
  have hx := B.exec
  have hb := B.bytes
  have hr := B.returns
  have hts := atoms_spec (ws := sw_k_X10_nextOf_3) B.pre
  have hown : s.vm.findClass RX10 = some m.cls := findClass_of_methodNamed B.named
  have hlocks := B.notSynchronized
  subst hsz
  have hD := hD0
  have hS : va_S (fun _ => False) s.heap s.heap [] := va_S.rf
  have hl := lv_entry ([.ref h0, .int 3, .int 0]) (n := 10) (Nat.le_of_ble_eq_true rfl)
  rw [lg_entry_eq]
  generalize (lg_sl ([.ref h0, .int 3, .int 0]) ++ List.replicate (10 - (lg_sl ([.ref h0, .int 3, .int 0])).length) Slot.unset).toArray = ls at hl ⊢
  have hl : lv_has ls 10 [(0, .ref h0), (1, .int 3), (2, .int 0)] := hl
  refine lv_aload_n hx hb dX10_nextOf_0 rfl (lv_at hl 0 rfl) ?_
  refine lv_iload_n hx hb dX10_nextOf_1 rfl (lv_at hl 2 rfl) ?_
  have hPc := hP.sub (ws' := [(h0, .inr (10, [.ref h2, .ref h1, .ref h3, .ref h4, .ref h5, .ref h6, .ref h7, .int 0, .ref h8, .ref h9, .ref h10, .ref h11, .ref h12, .ref h13, .ref h14, .int 0, .int 0, .int 0, .ref h15, .ref h16, .int 0, .int 0, .int 0, .ref h17, .ref h18, .ref h19, .ref h20, .ref h21, .ref h22, .ref h23, .int 0, .ref h24, .int 0, .ref h25])), (h1, .inl (cI, 9, .inl (upd (upd (upd (fun _ => 0) (Int32.toNatClampNeg 3) 5) (Int32.toNatClampNeg 4) 9) (Int32.toNatClampNeg 7) 1)))]) [0, 1] rfl
  have hDc := hD.sub (ws' := [(h0, .inr (10, [.ref h2, .ref h1, .ref h3, .ref h4, .ref h5, .ref h6, .ref h7, .int 0, .ref h8, .ref h9, .ref h10, .ref h11, .ref h12, .ref h13, .ref h14, .int 0, .int 0, .int 0, .ref h15, .ref h16, .int 0, .int 0, .int 0, .ref h17, .ref h18, .ref h19, .ref h20, .ref h21, .ref h22, .ref h23, .int 0, .ref h24, .int 0, .ref h25])), (h1, .inl (cI, 9, .inl (upd (upd (upd (fun _ => 0) (Int32.toNatClampNeg 3) 5) (Int32.toNatClampNeg 4) 9) (Int32.toNatClampNeg 7) 1)))]) [0, 1] (by decide) rfl
  refine va_callv (va_runV (As := [.int 0]) (rest := []) ⟨hx, hb, hml, hown, hts⟩ (k_X10_look_ l D cC cI cZ h0 h1 h2 h3 h4 h5 h6 h7 h8 h9 h10 h11 h12 h13 h14 h15 h16 h17 h18 h19 h20 h21 h22 h23 h24 h25 s.heap.size ) (cwV (C := RX10) 1 hts (goodIn_app (goodIn_of _ (by decide +kernel)) gc_k_X10_nextOf_3_k_X10_look_) rfl rfl rfl (by decide +kernel) ⟨(Nat.le_of_ble_eq_true rfl), (Nat.le_of_ble_eq_true rfl)⟩) (kPreV hK hPc hDc (va_recv hK hPc (ci := 10) (q0 := 0) rfl rfl)) rfl rfl hl.1 rfl (lv_room (Nat.le_of_ble_eq_true rfl)) dX10_nextOf_2 ⟨(Nat.le_of_ble_eq_true rfl), (Nat.le_of_ble_eq_true rfl)⟩) hS (fun q _ h => False.elim h) (fun q h => False.elim h) (fun u t H1 locs ht hvm hw hB hz1 hk1 hS => ?_)
  have hP := hP.kept (H1 := H1) (fun k q hk => hk1 q.1 (hP k q hk).lt (fun h => h))
  generalize H1 = H at hP hS ⊢
  refine lv_aload_n hx hb dX10_nextOf_5 rfl (lv_at hl 0 rfl) ?_
  have hPc := hP.sub (ws' := [(h0, .inr (10, [.ref h2, .ref h1, .ref h3, .ref h4, .ref h5, .ref h6, .ref h7, .int 0, .ref h8, .ref h9, .ref h10, .ref h11, .ref h12, .ref h13, .ref h14, .int 0, .int 0, .int 0, .ref h15, .ref h16, .int 0, .int 0, .int 0, .ref h17, .ref h18, .ref h19, .ref h20, .ref h21, .ref h22, .ref h23, .int 0, .ref h24, .int 0, .ref h25])), (h1, .inl (cI, 9, .inl (upd (upd (upd (fun _ => 0) (Int32.toNatClampNeg 3) 5) (Int32.toNatClampNeg 4) 9) (Int32.toNatClampNeg 7) 1)))]) [0, 1] rfl
  have hDc := hD.sub (ws' := [(h0, .inr (10, [.ref h2, .ref h1, .ref h3, .ref h4, .ref h5, .ref h6, .ref h7, .int 0, .ref h8, .ref h9, .ref h10, .ref h11, .ref h12, .ref h13, .ref h14, .int 0, .int 0, .int 0, .ref h15, .ref h16, .int 0, .int 0, .int 0, .ref h17, .ref h18, .ref h19, .ref h20, .ref h21, .ref h22, .ref h23, .int 0, .ref h24, .int 0, .ref h25])), (h1, .inl (cI, 9, .inl (upd (upd (upd (fun _ => 0) (Int32.toNatClampNeg 3) 5) (Int32.toNatClampNeg 4) 9) (Int32.toNatClampNeg 7) 1)))]) [0, 1] (by decide) rfl
  refine va_calli (va_runV (As := []) (rest := []) ⟨hx, hb, hml, hown, hts⟩ (k_X10_isSorted l D cC cI cZ h0 h1 h2 h3 h4 h5 h6 h7 h8 h9 h10 h11 h12 h13 h14 h15 h16 h17 h18 h19 h20 h21 h22 h23 h24 h25 H.size ) (cwV (C := RX10) 0 hts (goodIn_app (goodIn_of _ (by decide +kernel)) gc_k_X10_nextOf_3_k_X10_isSorted) rfl rfl rfl (by decide +kernel) ⟨(Nat.le_of_ble_eq_true rfl), (Nat.le_of_ble_eq_true rfl)⟩) (kPreV hK hPc hDc (va_recv hK hPc (ci := 10) (q0 := 0) rfl rfl)) rfl rfl hl.1 rfl (lv_room (Nat.le_of_ble_eq_true rfl)) dX10_nextOf_6 ⟨(Nat.le_of_ble_eq_true rfl), (Nat.le_of_ble_eq_true rfl)⟩) hS (fun q _ h => False.elim h) (fun q h => False.elim h) (fun r1 u t H1 locs ht hvm hw hB hz1 hk1 hS => ?_)
  have hP := hP.kept (H1 := H1) (fun k q hk => hk1 q.1 (hP k q hk).lt (fun h => h))
  generalize H1 = H at hP hS ⊢
  have hw : r1 = 1 := hw
  subst hw
  refine lv_if_eq (tgt := 15) hx hb dX10_nextOf_9 (by decide) (fun c => absurd c (by decide)) (fun _ => ?_)
  refine lv_bipush (v := (-9)) hx hb dX10_nextOf_12 (by decide) ?_
  exact W.iret (v := (-9)) hx hb hr (fun t ht hW => ⟨⟨(-9), (), rfl, rfl, trivial⟩, hS.F ht⟩) hS.2.2 dX10_nextOf_14
def sw_k_X10_tell_4 : List Cond := .code yX10_tell cX10_tell 2 none :: (([] : List Cond) ++ (([] : List Cond)))
theorem gd_k_X10_tell_4 : ∀ w ∈ sw_k_X10_tell_4, (w.onTables && w.keeps) = true ∨ ∃ ty, w = .arrayClass ty := List.forall_mem_cons.mpr ⟨good_of_word rfl, List.forall_mem_append.mpr ⟨fun w h => good_of_word (List.all_eq_true.mp (by decide +kernel : (([] : List Cond)).all goodWord = true) w h), fun _ h => absurd h List.not_mem_nil⟩⟩
set_option maxHeartbeats 4000000 in
set_option maxRecDepth 100000 in
theorem k_X10_tell_4 (l : Launch) (D : va_G) (cC cI cZ : ClassId) (h0 : Nat) (sz : Nat) : Met l yX10_tell sw_k_X10_tell_4 ({ frames := 2, cells := 0, slots := 0, locals := 100 }) (va_Pc [.ref h0, .int 4] (kPre D cC cI cZ [] sz)) (va_Qv (fun (_ : Unit) => True) (fun _ _ => True) (fun _ => False)) 0 0 (fun _ => False) := by
  refine Met.ofW (cc := cX10_tell) (maxL := 2) (ret := none) (by decide) rfl ?_
  intro p e s m args below meth c s₁ B hml hv
  obtain ⟨rfl, hsz, hP, hK, hD0⟩ := hv
  have hx := B.exec
  have hb := B.bytes
  have hr := B.returns
  have hts := atoms_spec (ws := sw_k_X10_tell_4) B.pre
  have hown : s.vm.findClass RX10 = some m.cls := findClass_of_methodNamed B.named
  have hlocks := B.notSynchronized
  subst hsz
  have hD := hD0
  have hS : va_S (fun _ => False) s.heap s.heap [] := va_S.rf
  have hl := lv_entry ([.ref h0, .int 4]) (n := 2) (Nat.le_of_ble_eq_true rfl)
  rw [lg_entry_eq]
  generalize (lg_sl ([.ref h0, .int 4]) ++ List.replicate (2 - (lg_sl ([.ref h0, .int 4])).length) Slot.unset).toArray = ls at hl ⊢
  have hl : lv_has ls 2 [(0, .ref h0), (1, .int 4)] := hl
  refine lv_iload_n hx hb dX10_tell_0 rfl (lv_at hl 1 rfl) ?_
  refine lv_iconst (v := 2) hx hb dX10_tell_1 (by decide) ?_
  refine lv_icmp_ne (tgt := 12) hx hb dX10_tell_2 (by decide) (fun _ => ?_) (fun c => absurd c (by decide))
  refine lv_iload_n hx hb dX10_tell_12 rfl (lv_at hl 1 rfl) ?_
  refine lv_iconst (v := 3) hx hb dX10_tell_13 (by decide) ?_
  refine lv_icmp_ne (tgt := 21) hx hb dX10_tell_14 (by decide) (fun _ => ?_) (fun c => absurd c (by decide))
  exact W.vret hx hb hr (fun t ht hW => ⟨⟨(), rfl, trivial, trivial⟩, hS.F ht⟩) hS.2.2 dX10_tell_21
def sw_k_X10_nextOf_4 : List Cond := .code yX10_nextOf cX10_nextOf 10 (some .int) :: (([.methodLink RX10 184 yX10_look_, .instanceMethod yX10_look_, .selects RX10 yX10_look_ yX10_look_, .initialized RX10, .methodLink RX10 174 yX10_isSorted, .instanceMethod yX10_isSorted, .selects RX10 yX10_isSorted yX10_isSorted] : List Cond) ++ (sw_k_X10_look_ ++ (sw_k_X10_isSorted ++ (([] : List Cond)))))
theorem gd_k_X10_nextOf_4 : ∀ w ∈ sw_k_X10_nextOf_4, (w.onTables && w.keeps) = true ∨ ∃ ty, w = .arrayClass ty := List.forall_mem_cons.mpr ⟨good_of_word rfl, List.forall_mem_append.mpr ⟨fun w h => good_of_word (List.all_eq_true.mp (by decide +kernel : (([.methodLink RX10 184 yX10_look_, .instanceMethod yX10_look_, .selects RX10 yX10_look_ yX10_look_, .initialized RX10, .methodLink RX10 174 yX10_isSorted, .instanceMethod yX10_isSorted, .selects RX10 yX10_isSorted yX10_isSorted] : List Cond)).all goodWord = true) w h), List.forall_mem_append.mpr ⟨gd_k_X10_look_, List.forall_mem_append.mpr ⟨gd_k_X10_isSorted, fun _ h => absurd h List.not_mem_nil⟩⟩⟩⟩
theorem gc_k_X10_nextOf_4_k_X10_look_ : GoodIn sw_k_X10_nextOf_4 sw_k_X10_look_ := fun w h => ⟨List.mem_cons_of_mem _ (List.mem_append_right _ (List.mem_append_left _ h)), gd_k_X10_look_ w h⟩
theorem gc_k_X10_nextOf_4_k_X10_isSorted : GoodIn sw_k_X10_nextOf_4 sw_k_X10_isSorted := fun w h => ⟨List.mem_cons_of_mem _ (List.mem_append_right _ (List.mem_append_right _ (List.mem_append_left _ h))), gd_k_X10_isSorted w h⟩
set_option maxHeartbeats 4000000 in
set_option maxRecDepth 100000 in
theorem k_X10_nextOf_4 (l : Launch) (D : va_G) (cC cI cZ : ClassId) (h0 h1 h2 h3 h4 h5 h6 h7 h8 h9 h10 h11 h12 h13 h14 h15 h16 h17 h18 h19 h20 h21 h22 h23 h24 h25 : Nat) (sz : Nat) : Met l yX10_nextOf sw_k_X10_nextOf_4 ({ frames := 4, cells := 0, slots := 0, locals := 200 }) (va_Pc [.ref h0, .int 4, .int 0] (kPre D cC cI cZ [(h0, .inr (10, [.ref h2, .ref h1, .ref h3, .ref h4, .ref h5, .ref h6, .ref h7, .int 0, .ref h8, .ref h9, .ref h10, .ref h11, .ref h12, .ref h13, .ref h14, .int 0, .int 0, .int 0, .ref h15, .ref h16, .int 0, .int 0, .int 0, .ref h17, .ref h18, .ref h19, .ref h20, .ref h21, .ref h22, .ref h23, .int 0, .ref h24, .int 0, .ref h25])), (h1, .inl (cI, 9, .inl (upd (upd (upd (fun _ => 0) (Int32.toNatClampNeg 3) 5) (Int32.toNatClampNeg 4) 9) (Int32.toNatClampNeg 7) 1)))] sz)) (va_Qi (fun (r : Int32) (_ : Unit) => r = (-9)) (fun _ _ => True) (fun _ => False)) 0 0 (fun _ => False) := by
  refine Met.ofW (cc := cX10_nextOf) (maxL := 10) (ret := (some .int)) (by decide) rfl ?_
  intro p e s m args below meth c s₁ B hml hv
  obtain ⟨rfl, hsz, hP, hK, hD0⟩ := hv
  have hx := B.exec
  have hb := B.bytes
  have hr := B.returns
  have hts := atoms_spec (ws := sw_k_X10_nextOf_4) B.pre
  have hown : s.vm.findClass RX10 = some m.cls := findClass_of_methodNamed B.named
  have hlocks := B.notSynchronized
  subst hsz
  have hD := hD0
  have hS : va_S (fun _ => False) s.heap s.heap [] := va_S.rf
  have hl := lv_entry ([.ref h0, .int 4, .int 0]) (n := 10) (Nat.le_of_ble_eq_true rfl)
  rw [lg_entry_eq]
  generalize (lg_sl ([.ref h0, .int 4, .int 0]) ++ List.replicate (10 - (lg_sl ([.ref h0, .int 4, .int 0])).length) Slot.unset).toArray = ls at hl ⊢
  have hl : lv_has ls 10 [(0, .ref h0), (1, .int 4), (2, .int 0)] := hl
  refine lv_aload_n hx hb dX10_nextOf_0 rfl (lv_at hl 0 rfl) ?_
  refine lv_iload_n hx hb dX10_nextOf_1 rfl (lv_at hl 2 rfl) ?_
  have hPc := hP.sub (ws' := [(h0, .inr (10, [.ref h2, .ref h1, .ref h3, .ref h4, .ref h5, .ref h6, .ref h7, .int 0, .ref h8, .ref h9, .ref h10, .ref h11, .ref h12, .ref h13, .ref h14, .int 0, .int 0, .int 0, .ref h15, .ref h16, .int 0, .int 0, .int 0, .ref h17, .ref h18, .ref h19, .ref h20, .ref h21, .ref h22, .ref h23, .int 0, .ref h24, .int 0, .ref h25])), (h1, .inl (cI, 9, .inl (upd (upd (upd (fun _ => 0) (Int32.toNatClampNeg 3) 5) (Int32.toNatClampNeg 4) 9) (Int32.toNatClampNeg 7) 1)))]) [0, 1] rfl
  have hDc := hD.sub (ws' := [(h0, .inr (10, [.ref h2, .ref h1, .ref h3, .ref h4, .ref h5, .ref h6, .ref h7, .int 0, .ref h8, .ref h9, .ref h10, .ref h11, .ref h12, .ref h13, .ref h14, .int 0, .int 0, .int 0, .ref h15, .ref h16, .int 0, .int 0, .int 0, .ref h17, .ref h18, .ref h19, .ref h20, .ref h21, .ref h22, .ref h23, .int 0, .ref h24, .int 0, .ref h25])), (h1, .inl (cI, 9, .inl (upd (upd (upd (fun _ => 0) (Int32.toNatClampNeg 3) 5) (Int32.toNatClampNeg 4) 9) (Int32.toNatClampNeg 7) 1)))]) [0, 1] (by decide) rfl
  refine va_callv (va_runV (As := [.int 0]) (rest := []) ⟨hx, hb, hml, hown, hts⟩ (k_X10_look_ l D cC cI cZ h0 h1 h2 h3 h4 h5 h6 h7 h8 h9 h10 h11 h12 h13 h14 h15 h16 h17 h18 h19 h20 h21 h22 h23 h24 h25 s.heap.size ) (cwV (C := RX10) 1 hts (goodIn_app (goodIn_of _ (by decide +kernel)) gc_k_X10_nextOf_4_k_X10_look_) rfl rfl rfl (by decide +kernel) ⟨(Nat.le_of_ble_eq_true rfl), (Nat.le_of_ble_eq_true rfl)⟩) (kPreV hK hPc hDc (va_recv hK hPc (ci := 10) (q0 := 0) rfl rfl)) rfl rfl hl.1 rfl (lv_room (Nat.le_of_ble_eq_true rfl)) dX10_nextOf_2 ⟨(Nat.le_of_ble_eq_true rfl), (Nat.le_of_ble_eq_true rfl)⟩) hS (fun q _ h => False.elim h) (fun q h => False.elim h) (fun u t H1 locs ht hvm hw hB hz1 hk1 hS => ?_)
  have hP := hP.kept (H1 := H1) (fun k q hk => hk1 q.1 (hP k q hk).lt (fun h => h))
  generalize H1 = H at hP hS ⊢
  refine lv_aload_n hx hb dX10_nextOf_5 rfl (lv_at hl 0 rfl) ?_
  have hPc := hP.sub (ws' := [(h0, .inr (10, [.ref h2, .ref h1, .ref h3, .ref h4, .ref h5, .ref h6, .ref h7, .int 0, .ref h8, .ref h9, .ref h10, .ref h11, .ref h12, .ref h13, .ref h14, .int 0, .int 0, .int 0, .ref h15, .ref h16, .int 0, .int 0, .int 0, .ref h17, .ref h18, .ref h19, .ref h20, .ref h21, .ref h22, .ref h23, .int 0, .ref h24, .int 0, .ref h25])), (h1, .inl (cI, 9, .inl (upd (upd (upd (fun _ => 0) (Int32.toNatClampNeg 3) 5) (Int32.toNatClampNeg 4) 9) (Int32.toNatClampNeg 7) 1)))]) [0, 1] rfl
  have hDc := hD.sub (ws' := [(h0, .inr (10, [.ref h2, .ref h1, .ref h3, .ref h4, .ref h5, .ref h6, .ref h7, .int 0, .ref h8, .ref h9, .ref h10, .ref h11, .ref h12, .ref h13, .ref h14, .int 0, .int 0, .int 0, .ref h15, .ref h16, .int 0, .int 0, .int 0, .ref h17, .ref h18, .ref h19, .ref h20, .ref h21, .ref h22, .ref h23, .int 0, .ref h24, .int 0, .ref h25])), (h1, .inl (cI, 9, .inl (upd (upd (upd (fun _ => 0) (Int32.toNatClampNeg 3) 5) (Int32.toNatClampNeg 4) 9) (Int32.toNatClampNeg 7) 1)))]) [0, 1] (by decide) rfl
  refine va_calli (va_runV (As := []) (rest := []) ⟨hx, hb, hml, hown, hts⟩ (k_X10_isSorted l D cC cI cZ h0 h1 h2 h3 h4 h5 h6 h7 h8 h9 h10 h11 h12 h13 h14 h15 h16 h17 h18 h19 h20 h21 h22 h23 h24 h25 H.size ) (cwV (C := RX10) 0 hts (goodIn_app (goodIn_of _ (by decide +kernel)) gc_k_X10_nextOf_4_k_X10_isSorted) rfl rfl rfl (by decide +kernel) ⟨(Nat.le_of_ble_eq_true rfl), (Nat.le_of_ble_eq_true rfl)⟩) (kPreV hK hPc hDc (va_recv hK hPc (ci := 10) (q0 := 0) rfl rfl)) rfl rfl hl.1 rfl (lv_room (Nat.le_of_ble_eq_true rfl)) dX10_nextOf_6 ⟨(Nat.le_of_ble_eq_true rfl), (Nat.le_of_ble_eq_true rfl)⟩) hS (fun q _ h => False.elim h) (fun q h => False.elim h) (fun r1 u t H1 locs ht hvm hw hB hz1 hk1 hS => ?_)
  have hP := hP.kept (H1 := H1) (fun k q hk => hk1 q.1 (hP k q hk).lt (fun h => h))
  generalize H1 = H at hP hS ⊢
  have hw : r1 = 1 := hw
  subst hw
  refine lv_if_eq (tgt := 15) hx hb dX10_nextOf_9 (by decide) (fun c => absurd c (by decide)) (fun _ => ?_)
  refine lv_bipush (v := (-9)) hx hb dX10_nextOf_12 (by decide) ?_
  exact W.iret (v := (-9)) hx hb hr (fun t ht hW => ⟨⟨(-9), (), rfl, rfl, trivial⟩, hS.F ht⟩) hS.2.2 dX10_nextOf_14
