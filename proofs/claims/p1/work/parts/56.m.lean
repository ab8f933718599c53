def sw_k_X10_turn : List Cond := .code yX10_turn cX10_turn 3 (some .int) :: (([.methodLink RX10 158 yX10_isTurn, .instanceMethod yX10_isTurn, .selects RX10 yX10_isTurn yX10_isTurn, .initialized RX10, .methodLink RX10 94 yX10_no, .instanceMethod yX10_no, .selects RX10 yX10_no yX10_no] : List Cond) ++ (sw_k_X10_isTurn ++ (sw_k_X10_no_2 ++ (([] : List Cond)))))
theorem gd_k_X10_turn : ∀ w ∈ sw_k_X10_turn, (w.onTables && w.keeps) = true ∨ ∃ ty, w = .arrayClass ty := List.forall_mem_cons.mpr ⟨good_of_word rfl, List.forall_mem_append.mpr ⟨fun w h => good_of_word (List.all_eq_true.mp (by decide +kernel : (([.methodLink RX10 158 yX10_isTurn, .instanceMethod yX10_isTurn, .selects RX10 yX10_isTurn yX10_isTurn, .initialized RX10, .methodLink RX10 94 yX10_no, .instanceMethod yX10_no, .selects RX10 yX10_no yX10_no] : List Cond)).all goodWord = true) w h), List.forall_mem_append.mpr ⟨gd_k_X10_isTurn, List.forall_mem_append.mpr ⟨gd_k_X10_no_2, fun _ h => absurd h List.not_mem_nil⟩⟩⟩⟩
theorem gc_k_X10_turn_k_X10_isTurn : GoodIn sw_k_X10_turn sw_k_X10_isTurn := fun w h => ⟨List.mem_cons_of_mem _ (List.mem_append_right _ (List.mem_append_left _ h)), gd_k_X10_isTurn w h⟩
theorem gc_k_X10_turn_k_X10_no_2 : GoodIn sw_k_X10_turn sw_k_X10_no_2 := fun w h => ⟨List.mem_cons_of_mem _ (List.mem_append_right _ (List.mem_append_right _ (List.mem_append_left _ h))), gd_k_X10_no_2 w h⟩
set_option maxHeartbeats 4000000 in
set_option maxRecDepth 100000 in
theorem k_X10_turn (l : Launch) (D : va_G) (cC cI cZ : ClassId) (h0 h1 h2 h3 h4 h5 h6 h7 h8 h9 h10 h11 h12 h13 h14 h15 h16 h17 h18 h19 h20 h21 h22 h23 h24 h25 : Nat) (sz : Nat) (p1 p2 : Int32) : Met l yX10_turn sw_k_X10_turn ({ frames := 4, cells := 0, slots := 0, locals := 200 }) (va_Pc [.ref h0, .int p1, .int p2] (kPre D cC cI cZ [(h0, .inr (10, [.ref h2, .ref h1, .ref h3, .ref h4, .ref h5, .ref h6, .ref h7, .int 0, .ref h8, .ref h9, .ref h10, .ref h11, .ref h12, .ref h13, .ref h14, .int 0, .int 0, .int 0, .ref h15, .ref h16, .int 0, .int 0, .int 0, .ref h17, .ref h18, .ref h19, .ref h20, .ref h21, .ref h22, .ref h23, .int 0, .ref h24, .int 0, .ref h25])), (h1, .inl (cI, 9, .inl (upd (upd (upd (fun _ => 0) (Int32.toNatClampNeg 3) 5) (Int32.toNatClampNeg 4) 9) (Int32.toNatClampNeg 7) 1))), (h2, .inl (cI, 7, .inl (fun _ => 0)))] sz)) (va_Qi (fun (r : Int32) (_ : Unit) => r = (-1)) (fun _ _ => True) (va_A [(h0, .inr (10, [.ref h2, .ref h1, .ref h3, .ref h4, .ref h5, .ref h6, .ref h7, .int 0, .ref h8, .ref h9, .ref h10, .ref h11, .ref h12, .ref h13, .ref h14, .int 0, .int 0, .int 0, .ref h15, .ref h16, .int 0, .int 0, .int 0, .ref h17, .ref h18, .ref h19, .ref h20, .ref h21, .ref h22, .ref h23, .int 0, .ref h24, .int 0, .ref h25])), (h1, .inl (cI, 9, .inl (upd (upd (upd (fun _ => 0) (Int32.toNatClampNeg 3) 5) (Int32.toNatClampNeg 4) 9) (Int32.toNatClampNeg 7) 1))), (h2, .inl (cI, 7, .inl (fun _ => 0)))] sz)) 0 0 (va_A [(h0, .inr (10, [.ref h2, .ref h1, .ref h3, .ref h4, .ref h5, .ref h6, .ref h7, .int 0, .ref h8, .ref h9, .ref h10, .ref h11, .ref h12, .ref h13, .ref h14, .int 0, .int 0, .int 0, .ref h15, .ref h16, .int 0, .int 0, .int 0, .ref h17, .ref h18, .ref h19, .ref h20, .ref h21, .ref h22, .ref h23, .int 0, .ref h24, .int 0, .ref h25])), (h1, .inl (cI, 9, .inl (upd (upd (upd (fun _ => 0) (Int32.toNatClampNeg 3) 5) (Int32.toNatClampNeg 4) 9) (Int32.toNatClampNeg 7) 1))), (h2, .inl (cI, 7, .inl (fun _ => 0)))] sz) := by
  refine Met.ofW (cc := cX10_turn) (maxL := 3) (ret := (some .int)) (by decide) rfl ?_
  intro p e s m args below meth c s₁ B hml hv
  obtain ⟨rfl, hsz, hP, hK, hD0⟩ := hv
  have hx := B.exec
  have hb := B.bytes
  have hr := B.returns
  have hts := atoms_spec (ws := sw_k_X10_turn) B.pre
  have hown : s.vm.findClass RX10 = some m.cls := findClass_of_methodNamed B.named
  have hlocks := B.notSynchronized
  subst hsz
  have hD := hD0.self (sz := s.heap.size)
  generalize hAe : va_A [(h0, .inr (10, [.ref h2, .ref h1, .ref h3, .ref h4, .ref h5, .ref h6, .ref h7, .int 0, .ref h8, .ref h9, .ref h10, .ref h11, .ref h12, .ref h13, .ref h14, .int 0, .int 0, .int 0, .ref h15, .ref h16, .int 0, .int 0, .int 0, .ref h17, .ref h18, .ref h19, .ref h20, .ref h21, .ref h22, .ref h23, .int 0, .ref h24, .int 0, .ref h25])), (h1, .inl (cI, 9, .inl (upd (upd (upd (fun _ => 0) (Int32.toNatClampNeg 3) 5) (Int32.toNatClampNeg 4) 9) (Int32.toNatClampNeg 7) 1))), (h2, .inl (cI, 7, .inl (fun _ => 0)))] s.heap.size = A at hD ⊢
  have hA : ∀ q : Nat, s.heap.size ≤ q → A q := fun q h => by rw [← hAe]; exact Or.inr h
  have hS : va_S A s.heap s.heap [] := va_S.rf
  have hl := lv_entry ([.ref h0, .int p1, .int p2]) (n := 3) (Nat.le_of_ble_eq_true rfl)
  rw [lg_entry_eq]
  generalize (lg_sl ([.ref h0, .int p1, .int p2]) ++ List.replicate (3 - (lg_sl ([.ref h0, .int p1, .int p2])).length) Slot.unset).toArray = ls at hl ⊢
  have hl : lv_has ls 3 [(0, .ref h0), (1, .int p1), (2, .int p2)] := hl
  refine lv_aload_n hx hb dX10_turn_0 rfl (lv_at hl 0 rfl) ?_
  refine lv_iload_n hx hb dX10_turn_1 rfl (lv_at hl 1 rfl) ?_
  refine lv_iload_n hx hb dX10_turn_2 rfl (lv_at hl 2 rfl) ?_
  have hPc := hP.sub (ws' := [(h0, .inr (10, [.ref h2, .ref h1, .ref h3, .ref h4, .ref h5, .ref h6, .ref h7, .int 0, .ref h8, .ref h9, .ref h10, .ref h11, .ref h12, .ref h13, .ref h14, .int 0, .int 0, .int 0, .ref h15, .ref h16, .int 0, .int 0, .int 0, .ref h17, .ref h18, .ref h19, .ref h20, .ref h21, .ref h22, .ref h23, .int 0, .ref h24, .int 0, .ref h25])), (h1, .inl (cI, 9, .inl (upd (upd (upd (fun _ => 0) (Int32.toNatClampNeg 3) 5) (Int32.toNatClampNeg 4) 9) (Int32.toNatClampNeg 7) 1)))]) [0, 1] rfl
  have hDc := hD.sub (ws' := [(h0, .inr (10, [.ref h2, .ref h1, .ref h3, .ref h4, .ref h5, .ref h6, .ref h7, .int 0, .ref h8, .ref h9, .ref h10, .ref h11, .ref h12, .ref h13, .ref h14, .int 0, .int 0, .int 0, .ref h15, .ref h16, .int 0, .int 0, .int 0, .ref h17, .ref h18, .ref h19, .ref h20, .ref h21, .ref h22, .ref h23, .int 0, .ref h24, .int 0, .ref h25])), (h1, .inl (cI, 9, .inl (upd (upd (upd (fun _ => 0) (Int32.toNatClampNeg 3) 5) (Int32.toNatClampNeg 4) 9) (Int32.toNatClampNeg 7) 1)))]) [0, 1] (by decide) rfl
  refine va_calli (va_runV (As := [.int p1, .int p2]) (rest := []) ⟨hx, hb, hml, hown, hts⟩ (k_X10_isTurn l D cC cI cZ h0 h1 h2 h3 h4 h5 h6 h7 h8 h9 h10 h11 h12 h13 h14 h15 h16 h17 h18 h19 h20 h21 h22 h23 h24 h25 s.heap.size p1 p2) (cwV (C := RX10) 2 hts (goodIn_app (goodIn_of _ (by decide +kernel)) gc_k_X10_turn_k_X10_isTurn) rfl rfl rfl (by decide +kernel) ⟨(Nat.le_of_ble_eq_true rfl), (Nat.le_of_ble_eq_true rfl)⟩) (kPreV hK hPc hDc (va_recv hK hPc (ci := 10) (q0 := 0) rfl rfl)) rfl rfl hl.1 rfl (lv_room (Nat.le_of_ble_eq_true rfl)) dX10_turn_3 ⟨(Nat.le_of_ble_eq_true rfl), (Nat.le_of_ble_eq_true rfl)⟩) hS (fun q _ h => False.elim h) (fun q h => False.elim h) (fun r1 u t H1 locs ht hvm hw hB hz1 hk1 hS => ?_)
  have hP := hP.kept (H1 := H1) (fun k q hk => hk1 q.1 (hP k q hk).lt (fun h => h))
  generalize H1 = H at hP hS ⊢
  have hw : r1 = 0 := hw
  subst hw
  refine lv_if_ne (tgt := 15) hx hb dX10_turn_6 (by decide) (fun c => absurd (by decide) c) (fun _ => ?_)
  refine lv_aload_n hx hb dX10_turn_9 rfl (lv_at hl 0 rfl) ?_
  refine lv_iconst (v := (-1)) hx hb dX10_turn_10 (by decide) ?_
  have hPc := hP.sub (ws' := [(h0, .inr (10, [.ref h2, .ref h1, .ref h3, .ref h4, .ref h5, .ref h6, .ref h7, .int 0, .ref h8, .ref h9, .ref h10, .ref h11, .ref h12, .ref h13, .ref h14, .int 0, .int 0, .int 0, .ref h15, .ref h16, .int 0, .int 0, .int 0, .ref h17, .ref h18, .ref h19, .ref h20, .ref h21, .ref h22, .ref h23, .int 0, .ref h24, .int 0, .ref h25])), (h2, .inl (cI, 7, .inl (fun _ => 0)))]) [0, 2] rfl
  have hDc := hD.sub (ws' := [(h0, .inr (10, [.ref h2, .ref h1, .ref h3, .ref h4, .ref h5, .ref h6, .ref h7, .int 0, .ref h8, .ref h9, .ref h10, .ref h11, .ref h12, .ref h13, .ref h14, .int 0, .int 0, .int 0, .ref h15, .ref h16, .int 0, .int 0, .int 0, .ref h17, .ref h18, .ref h19, .ref h20, .ref h21, .ref h22, .ref h23, .int 0, .ref h24, .int 0, .ref h25])), (h2, .inl (cI, 7, .inl (fun _ => 0)))]) [0, 2] (by decide) rfl
  have hFc := va_free (wc := [(h0, .inr (10, [.ref h2, .ref h1, .ref h3, .ref h4, .ref h5, .ref h6, .ref h7, .int 0, .ref h8, .ref h9, .ref h10, .ref h11, .ref h12, .ref h13, .ref h14, .int 0, .int 0, .int 0, .ref h15, .ref h16, .int 0, .int 0, .int 0, .ref h17, .ref h18, .ref h19, .ref h20, .ref h21, .ref h22, .ref h23, .int 0, .ref h24, .int 0, .ref h25])), (h2, .inl (cI, 7, .inl (fun _ => 0)))]) hD hS hA [0, 2] rfl
  refine va_calli (va_runV (As := [.int (-1)]) (rest := []) ⟨hx, hb, hml, hown, hts⟩ (k_X10_no_2 l D cC cI cZ h0 h2 h1 h3 h4 h5 h6 h7 h8 h9 h10 h11 h12 h13 h14 h15 h16 h17 h18 h19 h20 h21 h22 h23 h24 h25 H.size ) (cwV (C := RX10) 1 hts (goodIn_app (goodIn_of _ (by decide +kernel)) gc_k_X10_turn_k_X10_no_2) rfl rfl rfl (by decide +kernel) ⟨(Nat.le_of_ble_eq_true rfl), (Nat.le_of_ble_eq_true rfl)⟩) (kPreV hK hPc hDc (va_recv hK hPc (ci := 10) (q0 := 0) rfl rfl)) rfl rfl hl.1 rfl (lv_room (Nat.le_of_ble_eq_true rfl)) dX10_turn_11 ⟨(Nat.le_of_ble_eq_true rfl), (Nat.le_of_ble_eq_true rfl)⟩) hS (fun q _ h => hFc q h) hFc (fun r2 u t H1 locs ht hvm hw hB hz1 hk1 hS => ?_)
  obtain ⟨hP1, hD1⟩ := hB
  rw [ht] at hP1
  obtain ⟨hP, hD⟩ := va_join (wr := [(h1, .inl (cI, 9, .inl (upd (upd (upd (fun _ => 0) (Int32.toNatClampNeg 3) 5) (Int32.toNatClampNeg 4) 9) (Int32.toNatClampNeg 7) 1)))]) (w1 := [(h0, .inr (10, [.ref h2, .ref h1, .ref h3, .ref h4, .ref h5, .ref h6, .ref h7, .int 0, .ref h8, .ref h9, .ref h10, .ref h11, .ref h12, .ref h13, .ref h14, .int 0, .int 0, .int 0, .ref h15, .ref h16, .int 0, .int 0, .int 0, .ref h17, .ref h18, .ref h19, .ref h20, .ref h21, .ref h22, .ref h23, .int 0, .ref h24, .int 0, .ref h25])), (h2, .inl (cI, 7, .inl (upd (fun _ => 0) (Int32.toNatClampNeg 1) 1)))]) hP hD [0, 2] [1] rfl rfl (by decide) (by decide) hk1 hFc hP1 hD1
  generalize H1 = H at hP hS ⊢
  have hP : va_P D vwCl [(h1, .inl (cI, 9, .inl (upd (upd (upd (fun _ => 0) (Int32.toNatClampNeg 3) 5) (Int32.toNatClampNeg 4) 9) (Int32.toNatClampNeg 7) 1))), (h0, .inr (10, [.ref h2, .ref h1, .ref h3, .ref h4, .ref h5, .ref h6, .ref h7, .int 0, .ref h8, .ref h9, .ref h10, .ref h11, .ref h12, .ref h13, .ref h14, .int 0, .int 0, .int 0, .ref h15, .ref h16, .int 0, .int 0, .int 0, .ref h17, .ref h18, .ref h19, .ref h20, .ref h21, .ref h22, .ref h23, .int 0, .ref h24, .int 0, .ref h25])), (h2, .inl (cI, 7, .inl (upd (fun _ => 0) (Int32.toNatClampNeg 1) 1)))] H := hP
  have hD : va_D A [(h1, .inl (cI, 9, .inl (upd (upd (upd (fun _ => 0) (Int32.toNatClampNeg 3) 5) (Int32.toNatClampNeg 4) 9) (Int32.toNatClampNeg 7) 1))), (h0, .inr (10, [.ref h2, .ref h1, .ref h3, .ref h4, .ref h5, .ref h6, .ref h7, .int 0, .ref h8, .ref h9, .ref h10, .ref h11, .ref h12, .ref h13, .ref h14, .int 0, .int 0, .int 0, .ref h15, .ref h16, .int 0, .int 0, .int 0, .ref h17, .ref h18, .ref h19, .ref h20, .ref h21, .ref h22, .ref h23, .int 0, .ref h24, .int 0, .ref h25])), (h2, .inl (cI, 7, .inl (upd (fun _ => 0) (Int32.toNatClampNeg 1) 1)))] := hD
  have hw : r2 = (-1) := hw
  subst hw
  refine W.widen (k := 0) (n := 0) (Nat.le_of_ble_eq_true rfl) (Nat.le_of_ble_eq_true rfl) ?_
  exact W.iret (v := (-1)) hx hb hr (fun t ht hW => ⟨⟨(-1), (), rfl, rfl, trivial⟩, hS.F ht⟩) hS.2.2 dX10_turn_14
def sw_k_X10_copy : List Cond := .code yX10_copy cX10_copy 3 none :: (([] : List Cond) ++ (([] : List Cond)))
theorem gd_k_X10_copy : ∀ w ∈ sw_k_X10_copy, (w.onTables && w.keeps) = true ∨ ∃ ty, w = .arrayClass ty := List.forall_mem_cons.mpr ⟨good_of_word rfl, List.forall_mem_append.mpr ⟨fun w h => good_of_word (List.all_eq_true.mp (by decide +kernel : (([] : List Cond)).all goodWord = true) w h), fun _ h => absurd h List.not_mem_nil⟩⟩
set_option maxHeartbeats 4000000 in
set_option maxRecDepth 100000 in
theorem k_X10_copy (l : Launch) (D : va_G) (cC cI cZ : ClassId) (h0 h1 : Nat) (sz : Nat) : Met l yX10_copy sw_k_X10_copy ({ frames := 2, cells := 0, slots := 0, locals := 100 }) (va_Pc [.ref h0, .ref h1] (kPre D cC cI cZ [(h0, .inl (cI, 5, .inl (fun _ => 0))), (h1, .inl (cI, 5, .inl (fun _ => 0)))] sz)) (va_Qv (fun (_ : Unit) => True) (fun _ t => va_P D vwCl [(h0, .inl (cI, 5, .inl (fun _ => 0))), (h1, .inl (cI, 5, .inl (fun _ => 0)))] t.heap ∧ va_D (va_A [(h0, .inl (cI, 5, .inl (fun _ => 0))), (h1, .inl (cI, 5, .inl (fun _ => 0)))] sz) [(h0, .inl (cI, 5, .inl (fun _ => 0))), (h1, .inl (cI, 5, .inl (fun _ => 0)))]) (va_A [(h0, .inl (cI, 5, .inl (fun _ => 0))), (h1, .inl (cI, 5, .inl (fun _ => 0)))] sz)) 0 0 (va_A [(h0, .inl (cI, 5, .inl (fun _ => 0))), (h1, .inl (cI, 5, .inl (fun _ => 0)))] sz) := by
  refine Met.ofW (cc := cX10_copy) (maxL := 3) (ret := none) (by decide) rfl ?_
  intro p e s m args below meth c s₁ B hml hv
  obtain ⟨rfl, hsz, hP, hK, hD0⟩ := hv
  have hx := B.exec
  have hb := B.bytes
  have hr := B.returns
  have hts := atoms_spec (ws := sw_k_X10_copy) B.pre
  have hown : s.vm.findClass RX10 = some m.cls := findClass_of_methodNamed B.named
  have hlocks := B.notSynchronized
  subst hsz
  have hD := hD0.self (sz := s.heap.size)
  generalize hAe : va_A [(h0, .inl (cI, 5, .inl (fun _ => 0))), (h1, .inl (cI, 5, .inl (fun _ => 0)))] s.heap.size = A at hD ⊢
  have hA : ∀ q : Nat, s.heap.size ≤ q → A q := fun q h => by rw [← hAe]; exact Or.inr h
  have hS : va_S A s.heap s.heap [] := va_S.rf
  have hl := lv_entry ([.ref h0, .ref h1]) (n := 3) (Nat.le_of_ble_eq_true rfl)
  rw [lg_entry_eq]
  generalize (lg_sl ([.ref h0, .ref h1]) ++ List.replicate (3 - (lg_sl ([.ref h0, .ref h1])).length) Slot.unset).toArray = ls at hl ⊢
  have hl : lv_has ls 3 [(0, .ref h0), (1, .ref h1)] := hl
  refine lv_iconst (v := 0) hx hb dX10_copy_0 (by decide) ?_
  refine lv_istore_n (lv' := [(2, .int 0), (0, .ref h0), (1, .ref h1)]) hx hb dX10_copy_1 rfl hl (by decide) rfl (fun ls hl => ?_)
  refine lv_iload_n hx hb dX10_copy_2 rfl (lv_at hl 0 rfl) ?_
  refine lv_aload_n hx hb dX10_copy_3 rfl (lv_at hl 1 rfl) ?_
  refine va_alen (ty := .int) (v := 5) hx hb hK hP 0 1 rfl rfl rfl dX10_copy_4 ?_
  refine lv_icmp_ge (tgt := 20) hx hb dX10_copy_5 (by decide) (fun c => absurd c (by decide)) (fun _ => ?_)
  refine lv_aload_n hx hb dX10_copy_8 rfl (lv_at hl 2 rfl) ?_
  refine lv_iload_n hx hb dX10_copy_9 rfl (lv_at hl 0 rfl) ?_
  refine lv_aload_n hx hb dX10_copy_10 rfl (lv_at hl 1 rfl) ?_
  refine lv_iload_n hx hb dX10_copy_11 rfl (lv_at hl 0 rfl) ?_
  refine va_iald (i := 0) hx hb hK hP 0 1 rfl rfl (vp_in_iff.mpr (by decide)) dX10_copy_12 ?_
  refine kt_eq (y := 0) (by decide +kernel) ?_
  refine kn_iastS (i := 0) (x := 0) hx hb hK hP hD hS 1 1 rfl rfl (vp_in_iff.mpr (by decide)) (by decide +kernel) dX10_copy_13 (fun H locs hP hD hS => ?_)
  refine lv_iinc (v := 1) (lv' := [(2, .int 1), (0, .ref h0), (1, .ref h1)]) hx hb dX10_copy_14 hl (k := 0) rfl (by decide) (by decide) rfl (fun ls hl => ?_)
  refine lv_goto (tgt := 2) hx hb dX10_copy_17 (by decide) ?_
  refine lv_iload_n hx hb dX10_copy_2 rfl (lv_at hl 0 rfl) ?_
  refine lv_aload_n hx hb dX10_copy_3 rfl (lv_at hl 1 rfl) ?_
  refine va_alen (ty := .int) (v := 5) hx hb hK hP 0 1 rfl rfl rfl dX10_copy_4 ?_
  refine lv_icmp_ge (tgt := 20) hx hb dX10_copy_5 (by decide) (fun c => absurd c (by decide)) (fun _ => ?_)
  refine lv_aload_n hx hb dX10_copy_8 rfl (lv_at hl 2 rfl) ?_
  refine lv_iload_n hx hb dX10_copy_9 rfl (lv_at hl 0 rfl) ?_
  refine lv_aload_n hx hb dX10_copy_10 rfl (lv_at hl 1 rfl) ?_
  refine lv_iload_n hx hb dX10_copy_11 rfl (lv_at hl 0 rfl) ?_
  refine va_iald (i := 1) hx hb hK hP 0 1 rfl rfl (vp_in_iff.mpr (by decide)) dX10_copy_12 ?_
  refine kt_eq (y := 0) (by decide +kernel) ?_
  refine kn_iastS (i := 1) (x := 0) hx hb hK hP hD hS 1 1 rfl rfl (vp_in_iff.mpr (by decide)) (by decide +kernel) dX10_copy_13 (fun H locs hP hD hS => ?_)
  refine lv_iinc (v := 2) (lv' := [(2, .int 2), (0, .ref h0), (1, .ref h1)]) hx hb dX10_copy_14 hl (k := 0) rfl (by decide) (by decide) rfl (fun ls hl => ?_)
  refine lv_goto (tgt := 2) hx hb dX10_copy_17 (by decide) ?_
  refine lv_iload_n hx hb dX10_copy_2 rfl (lv_at hl 0 rfl) ?_
  refine lv_aload_n hx hb dX10_copy_3 rfl (lv_at hl 1 rfl) ?_
  refine va_alen (ty := .int) (v := 5) hx hb hK hP 0 1 rfl rfl rfl dX10_copy_4 ?_
  refine lv_icmp_ge (tgt := 20) hx hb dX10_copy_5 (by decide) (fun c => absurd c (by decide)) (fun _ => ?_)
  refine lv_aload_n hx hb dX10_copy_8 rfl (lv_at hl 2 rfl) ?_
  refine lv_iload_n hx hb dX10_copy_9 rfl (lv_at hl 0 rfl) ?_
  refine lv_aload_n hx hb dX10_copy_10 rfl (lv_at hl 1 rfl) ?_
  refine lv_iload_n hx hb dX10_copy_11 rfl (lv_at hl 0 rfl) ?_
  refine va_iald (i := 2) hx hb hK hP 0 1 rfl rfl (vp_in_iff.mpr (by decide)) dX10_copy_12 ?_
  refine kt_eq (y := 0) (by decide +kernel) ?_
  refine kn_iastS (i := 2) (x := 0) hx hb hK hP hD hS 1 1 rfl rfl (vp_in_iff.mpr (by decide)) (by decide +kernel) dX10_copy_13 (fun H locs hP hD hS => ?_)
  refine lv_iinc (v := 3) (lv' := [(2, .int 3), (0, .ref h0), (1, .ref h1)]) hx hb dX10_copy_14 hl (k := 0) rfl (by decide) (by decide) rfl (fun ls hl => ?_)
  refine lv_goto (tgt := 2) hx hb dX10_copy_17 (by decide) ?_
  refine lv_iload_n hx hb dX10_copy_2 rfl (lv_at hl 0 rfl) ?_
  refine lv_aload_n hx hb dX10_copy_3 rfl (lv_at hl 1 rfl) ?_
  refine va_alen (ty := .int) (v := 5) hx hb hK hP 0 1 rfl rfl rfl dX10_copy_4 ?_
  refine lv_icmp_ge (tgt := 20) hx hb dX10_copy_5 (by decide) (fun c => absurd c (by decide)) (fun _ => ?_)
  refine lv_aload_n hx hb dX10_copy_8 rfl (lv_at hl 2 rfl) ?_
  refine lv_iload_n hx hb dX10_copy_9 rfl (lv_at hl 0 rfl) ?_
  refine lv_aload_n hx hb dX10_copy_10 rfl (lv_at hl 1 rfl) ?_
  refine lv_iload_n hx hb dX10_copy_11 rfl (lv_at hl 0 rfl) ?_
  refine va_iald (i := 3) hx hb hK hP 0 1 rfl rfl (vp_in_iff.mpr (by decide)) dX10_copy_12 ?_
  refine kt_eq (y := 0) (by decide +kernel) ?_
  refine kn_iastS (i := 3) (x := 0) hx hb hK hP hD hS 1 1 rfl rfl (vp_in_iff.mpr (by decide)) (by decide +kernel) dX10_copy_13 (fun H locs hP hD hS => ?_)
  refine lv_iinc (v := 4) (lv' := [(2, .int 4), (0, .ref h0), (1, .ref h1)]) hx hb dX10_copy_14 hl (k := 0) rfl (by decide) (by decide) rfl (fun ls hl => ?_)
  refine lv_goto (tgt := 2) hx hb dX10_copy_17 (by decide) ?_
  refine lv_iload_n hx hb dX10_copy_2 rfl (lv_at hl 0 rfl) ?_
  refine lv_aload_n hx hb dX10_copy_3 rfl (lv_at hl 1 rfl) ?_
  refine va_alen (ty := .int) (v := 5) hx hb hK hP 0 1 rfl rfl rfl dX10_copy_4 ?_
  refine lv_icmp_ge (tgt := 20) hx hb dX10_copy_5 (by decide) (fun c => absurd c (by decide)) (fun _ => ?_)
  refine lv_aload_n hx hb dX10_copy_8 rfl (lv_at hl 2 rfl) ?_
  refine lv_iload_n hx hb dX10_copy_9 rfl (lv_at hl 0 rfl) ?_
  refine lv_aload_n hx hb dX10_copy_10 rfl (lv_at hl 1 rfl) ?_
  refine lv_iload_n hx hb dX10_copy_11 rfl (lv_at hl 0 rfl) ?_
  refine va_iald (i := 4) hx hb hK hP 0 1 rfl rfl (vp_in_iff.mpr (by decide)) dX10_copy_12 ?_
  refine kt_eq (y := 0) (by decide +kernel) ?_
  refine kn_iastS (i := 4) (x := 0) hx hb hK hP hD hS 1 1 rfl rfl (vp_in_iff.mpr (by decide)) (by decide +kernel) dX10_copy_13 (fun H locs hP hD hS => ?_)
  refine lv_iinc (v := 5) (lv' := [(2, .int 5), (0, .ref h0), (1, .ref h1)]) hx hb dX10_copy_14 hl (k := 0) rfl (by decide) (by decide) rfl (fun ls hl => ?_)
  refine lv_goto (tgt := 2) hx hb dX10_copy_17 (by decide) ?_
  refine lv_iload_n hx hb dX10_copy_2 rfl (lv_at hl 0 rfl) ?_
  refine lv_aload_n hx hb dX10_copy_3 rfl (lv_at hl 1 rfl) ?_
  refine va_alen (ty := .int) (v := 5) hx hb hK hP 0 1 rfl rfl rfl dX10_copy_4 ?_
  refine lv_icmp_ge (tgt := 20) hx hb dX10_copy_5 (by decide) (fun _ => ?_) (fun c => absurd (by decide) c)
  refine W.widen (k := 0) (n := 0) (Nat.le_of_ble_eq_true rfl) (Nat.le_of_ble_eq_true rfl) ?_
  have hP9 := hP.sub (ws' := [(h0, .inl (cI, 5, .inl (fun _ => 0))), (h1, .inl (cI, 5, .inl (fun _ => 0)))]) [0, 1] rfl
  have hD9 := hD.sub (ws' := [(h0, .inl (cI, 5, .inl (fun _ => 0))), (h1, .inl (cI, 5, .inl (fun _ => 0)))]) [0, 1] (by decide) rfl
  exact W.vret hx hb hr (fun t ht hW => ⟨⟨(), rfl, trivial, ⟨by rw [ht]; exact hP9, hD9⟩⟩, hS.F ht⟩) hS.2.2 dX10_copy_20
def sw_k_X10_look : List Cond := .code yX10_look cX10_look 1 none :: (([.fieldLink RX10 25 "TopTurnedModel" "heap" "[I", .fieldLink RX10 59 "TopTurnedModel" "lies" "[I", .methodLink RX10 90 yX10_copy, .static yX10_copy, .initialized RX10, .fieldLink RX10 28 "TopTurnedModel" "burnt" "[I", .fieldLink RX10 62 "TopTurnedModel" "side" "[I"] : List Cond) ++ (wsX100 ++ (sw_k_X10_copy ++ (([] : List Cond)))))
theorem gd_k_X10_look : ∀ w ∈ sw_k_X10_look, (w.onTables && w.keeps) = true ∨ ∃ ty, w = .arrayClass ty := List.forall_mem_cons.mpr ⟨good_of_word rfl, List.forall_mem_append.mpr ⟨fun w h => good_of_word (List.all_eq_true.mp (by decide +kernel : (([.fieldLink RX10 25 "TopTurnedModel" "heap" "[I", .fieldLink RX10 59 "TopTurnedModel" "lies" "[I", .methodLink RX10 90 yX10_copy, .static yX10_copy, .initialized RX10, .fieldLink RX10 28 "TopTurnedModel" "burnt" "[I", .fieldLink RX10 62 "TopTurnedModel" "side" "[I"] : List Cond)).all goodWord = true) w h), List.forall_mem_append.mpr ⟨gw_X10, List.forall_mem_append.mpr ⟨gd_k_X10_copy, fun _ h => absurd h List.not_mem_nil⟩⟩⟩⟩
theorem iw_k_X10_look_X10 : ∀ w ∈ wsX100, w ∈ sw_k_X10_look := fun _ h => List.mem_cons_of_mem _ (List.mem_append_right _ (List.mem_append_left _ h))
theorem gc_k_X10_look_k_X10_copy : GoodIn sw_k_X10_look sw_k_X10_copy := fun w h => ⟨List.mem_cons_of_mem _ (List.mem_append_right _ (List.mem_append_right _ (List.mem_append_left _ h))), gd_k_X10_copy w h⟩
set_option maxHeartbeats 4000000 in
set_option maxRecDepth 100000 in
theorem k_X10_look (l : Launch) (D : va_G) (cC cI cZ : ClassId) (h0 h1 h2 h3 h4 h5 h6 h7 h8 h9 h10 h11 h12 h13 h14 h15 h16 h17 h18 h19 h20 h21 h22 h23 h24 h25 : Nat) (sz : Nat) : Met l yX10_look sw_k_X10_look ({ frames := 4, cells := 0, slots := 0, locals := 200 }) (va_Pc [.ref h0] (kPre D cC cI cZ [(h0, .inr (10, [.ref h5, .ref h6, .ref h7, .ref h8, .ref h9, .ref h1, .ref h3, .int 0, .ref h10, .ref h11, .ref h12, .ref h13, .ref h14, .ref h15, .ref h16, .int 0, .int 0, .int 0, .ref h17, .ref h18, .int 0, .int 0, .int 0, .ref h2, .ref h4, .ref h19, .ref h20, .ref h21, .ref h22, .ref h23, .int 0, .ref h24, .int 0, .ref h25])), (h1, .inl (cI, 5, .inl (fun _ => 0))), (h2, .inl (cI, 5, .inl (fun _ => 0))), (h3, .inl (cI, 5, .inl (fun _ => 0))), (h4, .inl (cI, 5, .inl (fun _ => 0)))] sz)) (va_Qv (fun (_ : Unit) => True) (fun _ t => va_P D vwCl [(h0, .inr (10, [.ref h5, .ref h6, .ref h7, .ref h8, .ref h9, .ref h1, .ref h3, .int 0, .ref h10, .ref h11, .ref h12, .ref h13, .ref h14, .ref h15, .ref h16, .int 0, .int 0, .int 0, .ref h17, .ref h18, .int 0, .int 0, .int 0, .ref h2, .ref h4, .ref h19, .ref h20, .ref h21, .ref h22, .ref h23, .int 0, .ref h24, .int 0, .ref h25])), (h1, .inl (cI, 5, .inl (fun _ => 0))), (h2, .inl (cI, 5, .inl (fun _ => 0))), (h3, .inl (cI, 5, .inl (fun _ => 0))), (h4, .inl (cI, 5, .inl (fun _ => 0)))] t.heap ∧ va_D (va_A [(h0, .inr (10, [.ref h5, .ref h6, .ref h7, .ref h8, .ref h9, .ref h1, .ref h3, .int 0, .ref h10, .ref h11, .ref h12, .ref h13, .ref h14, .ref h15, .ref h16, .int 0, .int 0, .int 0, .ref h17, .ref h18, .int 0, .int 0, .int 0, .ref h2, .ref h4, .ref h19, .ref h20, .ref h21, .ref h22, .ref h23, .int 0, .ref h24, .int 0, .ref h25])), (h1, .inl (cI, 5, .inl (fun _ => 0))), (h2, .inl (cI, 5, .inl (fun _ => 0))), (h3, .inl (cI, 5, .inl (fun _ => 0))), (h4, .inl (cI, 5, .inl (fun _ => 0)))] sz) [(h0, .inr (10, [.ref h5, .ref h6, .ref h7, .ref h8, .ref h9, .ref h1, .ref h3, .int 0, .ref h10, .ref h11, .ref h12, .ref h13, .ref h14, .ref h15, .ref h16, .int 0, .int 0, .int 0, .ref h17, .ref h18, .int 0, .int 0, .int 0, .ref h2, .ref h4, .ref h19, .ref h20, .ref h21, .ref h22, .ref h23, .int 0, .ref h24, .int 0, .ref h25])), (h1, .inl (cI, 5, .inl (fun _ => 0))), (h2, .inl (cI, 5, .inl (fun _ => 0))), (h3, .inl (cI, 5, .inl (fun _ => 0))), (h4, .inl (cI, 5, .inl (fun _ => 0)))]) (va_A [(h0, .inr (10, [.ref h5, .ref h6, .ref h7, .ref h8, .ref h9, .ref h1, .ref h3, .int 0, .ref h10, .ref h11, .ref h12, .ref h13, .ref h14, .ref h15, .ref h16, .int 0, .int 0, .int 0, .ref h17, .ref h18, .int 0, .int 0, .int 0, .ref h2, .ref h4, .ref h19, .ref h20, .ref h21, .ref h22, .ref h23, .int 0, .ref h24, .int 0, .ref h25])), (h1, .inl (cI, 5, .inl (fun _ => 0))), (h2, .inl (cI, 5, .inl (fun _ => 0))), (h3, .inl (cI, 5, .inl (fun _ => 0))), (h4, .inl (cI, 5, .inl (fun _ => 0)))] sz)) 0 0 (va_A [(h0, .inr (10, [.ref h5, .ref h6, .ref h7, .ref h8, .ref h9, .ref h1, .ref h3, .int 0, .ref h10, .ref h11, .ref h12, .ref h13, .ref h14, .ref h15, .ref h16, .int 0, .int 0, .int 0, .ref h17, .ref h18, .int 0, .int 0, .int 0, .ref h2, .ref h4, .ref h19, .ref h20, .ref h21, .ref h22, .ref h23, .int 0, .ref h24, .int 0, .ref h25])), (h1, .inl (cI, 5, .inl (fun _ => 0))), (h2, .inl (cI, 5, .inl (fun _ => 0))), (h3, .inl (cI, 5, .inl (fun _ => 0))), (h4, .inl (cI, 5, .inl (fun _ => 0)))] sz) := by
  refine Met.ofW (cc := cX10_look) (maxL := 1) (ret := none) (by decide) rfl ?_
  intro p e s m args below meth c s₁ B hml hv
  obtain ⟨rfl, hsz, hP, hK, hD0⟩ := hv
  have hx := B.exec
  have hb := B.bytes
  have hr := B.returns
  have hts := atoms_spec (ws := sw_k_X10_look) B.pre
  have hown : s.vm.findClass RX10 = some m.cls := findClass_of_methodNamed B.named
  have hlocks := B.notSynchronized
  subst hsz
  have hD := hD0.self (sz := s.heap.size)
  generalize hAe : va_A [(h0, .inr (10, [.ref h5, .ref h6, .ref h7, .ref h8, .ref h9, .ref h1, .ref h3, .int 0, .ref h10, .ref h11, .ref h12, .ref h13, .ref h14, .ref h15, .ref h16, .int 0, .int 0, .int 0, .ref h17, .ref h18, .int 0, .int 0, .int 0, .ref h2, .ref h4, .ref h19, .ref h20, .ref h21, .ref h22, .ref h23, .int 0, .ref h24, .int 0, .ref h25])), (h1, .inl (cI, 5, .inl (fun _ => 0))), (h2, .inl (cI, 5, .inl (fun _ => 0))), (h3, .inl (cI, 5, .inl (fun _ => 0))), (h4, .inl (cI, 5, .inl (fun _ => 0)))] s.heap.size = A at hD ⊢
  have hA : ∀ q : Nat, s.heap.size ≤ q → A q := fun q h => by rw [← hAe]; exact Or.inr h
  have hS : va_S A s.heap s.heap [] := va_S.rf
  have hl := lv_entry ([.ref h0]) (n := 1) (Nat.le_of_ble_eq_true rfl)
  rw [lg_entry_eq]
  generalize (lg_sl ([.ref h0]) ++ List.replicate (1 - (lg_sl ([.ref h0])).length) Slot.unset).toArray = ls at hl ⊢
  have hl : lv_has ls 1 [(0, .ref h0)] := hl
  refine lv_aload_n hx hb dX10_look_0 rfl (lv_at hl 0 rfl) ?_
  refine va_get (D := D) (ci := 10) (v := .ref h1) (C := RX10) (T := TX10) (N := 34) hx hb hts iw_k_X10_look_X10 hown hK hP 0 rfl rfl 5 (by decide) (hts (.fieldLink RX10 25 "TopTurnedModel" "heap" "[I") (by decide +kernel)) (fun _ h9 => h9) rfl dX10_look_1 ?_
  refine lv_aload_n hx hb dX10_look_4 rfl (lv_at hl 0 rfl) ?_
  refine va_get (D := D) (ci := 10) (v := .ref h2) (C := RX10) (T := TX10) (N := 34) hx hb hts iw_k_X10_look_X10 hown hK hP 0 rfl rfl 23 (by decide) (hts (.fieldLink RX10 59 "TopTurnedModel" "lies" "[I") (by decide +kernel)) (fun _ h9 => h9) rfl dX10_look_5 ?_
  have hPc := hP.sub (ws' := [(h1, .inl (cI, 5, .inl (fun _ => 0))), (h2, .inl (cI, 5, .inl (fun _ => 0)))]) [1, 2] rfl
  have hDc := hD.sub (ws' := [(h1, .inl (cI, 5, .inl (fun _ => 0))), (h2, .inl (cI, 5, .inl (fun _ => 0)))]) [1, 2] (by decide) rfl
  have hFc := va_free (wc := [(h1, .inl (cI, 5, .inl (fun _ => 0))), (h2, .inl (cI, 5, .inl (fun _ => 0)))]) hD hS hA [1, 2] rfl
  refine va_callv (va_runS (As := [.ref h1, .ref h2]) (rest := []) ⟨hx, hb, hml, hown, hts⟩ (k_X10_copy l D cC cI cZ h1 h2 s.heap.size ) (va_cwS 2 hts (goodIn_app (goodIn_of _ (by decide +kernel)) gc_k_X10_look_k_X10_copy) rfl rfl rfl (by decide +kernel) ⟨(Nat.le_of_ble_eq_true rfl), (Nat.le_of_ble_eq_true rfl)⟩) (kPreS hK hPc hDc) rfl rfl hl.1 rfl (lv_room (Nat.le_of_ble_eq_true rfl)) dX10_look_8 ⟨(Nat.le_of_ble_eq_true rfl), (Nat.le_of_ble_eq_true rfl)⟩) hS (fun q _ h => hFc q h) hFc (fun u t H1 locs ht hvm hw hB hz1 hk1 hS => ?_)
  obtain ⟨hP1, hD1⟩ := hB
  rw [ht] at hP1
  obtain ⟨hP, hD⟩ := va_join (wr := [(h0, .inr (10, [.ref h5, .ref h6, .ref h7, .ref h8, .ref h9, .ref h1, .ref h3, .int 0, .ref h10, .ref h11, .ref h12, .ref h13, .ref h14, .ref h15, .ref h16, .int 0, .int 0, .int 0, .ref h17, .ref h18, .int 0, .int 0, .int 0, .ref h2, .ref h4, .ref h19, .ref h20, .ref h21, .ref h22, .ref h23, .int 0, .ref h24, .int 0, .ref h25])), (h3, .inl (cI, 5, .inl (fun _ => 0))), (h4, .inl (cI, 5, .inl (fun _ => 0)))]) (w1 := [(h1, .inl (cI, 5, .inl (fun _ => 0))), (h2, .inl (cI, 5, .inl (fun _ => 0)))]) hP hD [1, 2] [0, 3, 4] rfl rfl (by decide) (by decide) hk1 hFc hP1 hD1
  generalize H1 = H at hP hS ⊢
  have hP : va_P D vwCl [(h0, .inr (10, [.ref h5, .ref h6, .ref h7, .ref h8, .ref h9, .ref h1, .ref h3, .int 0, .ref h10, .ref h11, .ref h12, .ref h13, .ref h14, .ref h15, .ref h16, .int 0, .int 0, .int 0, .ref h17, .ref h18, .int 0, .int 0, .int 0, .ref h2, .ref h4, .ref h19, .ref h20, .ref h21, .ref h22, .ref h23, .int 0, .ref h24, .int 0, .ref h25])), (h3, .inl (cI, 5, .inl (fun _ => 0))), (h4, .inl (cI, 5, .inl (fun _ => 0))), (h1, .inl (cI, 5, .inl (fun _ => 0))), (h2, .inl (cI, 5, .inl (fun _ => 0)))] H := hP
  have hD : va_D A [(h0, .inr (10, [.ref h5, .ref h6, .ref h7, .ref h8, .ref h9, .ref h1, .ref h3, .int 0, .ref h10, .ref h11, .ref h12, .ref h13, .ref h14, .ref h15, .ref h16, .int 0, .int 0, .int 0, .ref h17, .ref h18, .int 0, .int 0, .int 0, .ref h2, .ref h4, .ref h19, .ref h20, .ref h21, .ref h22, .ref h23, .int 0, .ref h24, .int 0, .ref h25])), (h3, .inl (cI, 5, .inl (fun _ => 0))), (h4, .inl (cI, 5, .inl (fun _ => 0))), (h1, .inl (cI, 5, .inl (fun _ => 0))), (h2, .inl (cI, 5, .inl (fun _ => 0)))] := hD
  refine lv_aload_n hx hb dX10_look_11 rfl (lv_at hl 0 rfl) ?_
  refine va_get (D := D) (ci := 10) (v := .ref h3) (C := RX10) (T := TX10) (N := 34) hx hb hts iw_k_X10_look_X10 hown hK hP 0 rfl rfl 6 (by decide) (hts (.fieldLink RX10 28 "TopTurnedModel" "burnt" "[I") (by decide +kernel)) (fun _ h9 => h9) rfl dX10_look_12 ?_
  refine lv_aload_n hx hb dX10_look_15 rfl (lv_at hl 0 rfl) ?_
  refine va_get (D := D) (ci := 10) (v := .ref h4) (C := RX10) (T := TX10) (N := 34) hx hb hts iw_k_X10_look_X10 hown hK hP 0 rfl rfl 24 (by decide) (hts (.fieldLink RX10 62 "TopTurnedModel" "side" "[I") (by decide +kernel)) (fun _ h9 => h9) rfl dX10_look_16 ?_
  have hPc := hP.sub (ws' := [(h3, .inl (cI, 5, .inl (fun _ => 0))), (h4, .inl (cI, 5, .inl (fun _ => 0)))]) [1, 2] rfl
  have hDc := hD.sub (ws' := [(h3, .inl (cI, 5, .inl (fun _ => 0))), (h4, .inl (cI, 5, .inl (fun _ => 0)))]) [1, 2] (by decide) rfl
  have hFc := va_free (wc := [(h3, .inl (cI, 5, .inl (fun _ => 0))), (h4, .inl (cI, 5, .inl (fun _ => 0)))]) hD hS hA [1, 2] rfl
  refine va_callv (va_runS (As := [.ref h3, .ref h4]) (rest := []) ⟨hx, hb, hml, hown, hts⟩ (k_X10_copy l D cC cI cZ h3 h4 H.size ) (va_cwS 2 hts (goodIn_app (goodIn_of _ (by decide +kernel)) gc_k_X10_look_k_X10_copy) rfl rfl rfl (by decide +kernel) ⟨(Nat.le_of_ble_eq_true rfl), (Nat.le_of_ble_eq_true rfl)⟩) (kPreS hK hPc hDc) rfl rfl hl.1 rfl (lv_room (Nat.le_of_ble_eq_true rfl)) dX10_look_19 ⟨(Nat.le_of_ble_eq_true rfl), (Nat.le_of_ble_eq_true rfl)⟩) hS (fun q _ h => hFc q h) hFc (fun u t H1 locs ht hvm hw hB hz1 hk1 hS => ?_)
  obtain ⟨hP1, hD1⟩ := hB
  rw [ht] at hP1
  obtain ⟨hP, hD⟩ := va_join (wr := [(h0, .inr (10, [.ref h5, .ref h6, .ref h7, .ref h8, .ref h9, .ref h1, .ref h3, .int 0, .ref h10, .ref h11, .ref h12, .ref h13, .ref h14, .ref h15, .ref h16, .int 0, .int 0, .int 0, .ref h17, .ref h18, .int 0, .int 0, .int 0, .ref h2, .ref h4, .ref h19, .ref h20, .ref h21, .ref h22, .ref h23, .int 0, .ref h24, .int 0, .ref h25])), (h1, .inl (cI, 5, .inl (fun _ => 0))), (h2, .inl (cI, 5, .inl (fun _ => 0)))]) (w1 := [(h3, .inl (cI, 5, .inl (fun _ => 0))), (h4, .inl (cI, 5, .inl (fun _ => 0)))]) hP hD [1, 2] [0, 3, 4] rfl rfl (by decide) (by decide) hk1 hFc hP1 hD1
  generalize H1 = H at hP hS ⊢
  have hP : va_P D vwCl [(h0, .inr (10, [.ref h5, .ref h6, .ref h7, .ref h8, .ref h9, .ref h1, .ref h3, .int 0, .ref h10, .ref h11, .ref h12, .ref h13, .ref h14, .ref h15, .ref h16, .int 0, .int 0, .int 0, .ref h17, .ref h18, .int 0, .int 0, .int 0, .ref h2, .ref h4, .ref h19, .ref h20, .ref h21, .ref h22, .ref h23, .int 0, .ref h24, .int 0, .ref h25])), (h1, .inl (cI, 5, .inl (fun _ => 0))), (h2, .inl (cI, 5, .inl (fun _ => 0))), (h3, .inl (cI, 5, .inl (fun _ => 0))), (h4, .inl (cI, 5, .inl (fun _ => 0)))] H := hP
  have hD : va_D A [(h0, .inr (10, [.ref h5, .ref h6, .ref h7, .ref h8, .ref h9, .ref h1, .ref h3, .int 0, .ref h10, .ref h11, .ref h12, .ref h13, .ref h14, .ref h15, .ref h16, .int 0, .int 0, .int 0, .ref h17, .ref h18, .int 0, .int 0, .int 0, .ref h2, .ref h4, .ref h19, .ref h20, .ref h21, .ref h22, .ref h23, .int 0, .ref h24, .int 0, .ref h25])), (h1, .inl (cI, 5, .inl (fun _ => 0))), (h2, .inl (cI, 5, .inl (fun _ => 0))), (h3, .inl (cI, 5, .inl (fun _ => 0))), (h4, .inl (cI, 5, .inl (fun _ => 0)))] := hD
  refine W.widen (k := 0) (n := 0) (Nat.le_of_ble_eq_true rfl) (Nat.le_of_ble_eq_true rfl) ?_
  have hP9 := hP.sub (ws' := [(h0, .inr (10, [.ref h5, .ref h6, .ref h7, .ref h8, .ref h9, .ref h1, .ref h3, .int 0, .ref h10, .ref h11, .ref h12, .ref h13, .ref h14, .ref h15, .ref h16, .int 0, .int 0, .int 0, .ref h17, .ref h18, .int 0, .int 0, .int 0, .ref h2, .ref h4, .ref h19, .ref h20, .ref h21, .ref h22, .ref h23, .int 0, .ref h24, .int 0, .ref h25])), (h1, .inl (cI, 5, .inl (fun _ => 0))), (h2, .inl (cI, 5, .inl (fun _ => 0))), (h3, .inl (cI, 5, .inl (fun _ => 0))), (h4, .inl (cI, 5, .inl (fun _ => 0)))]) [0, 1, 2, 3, 4] rfl
  have hD9 := hD.sub (ws' := [(h0, .inr (10, [.ref h5, .ref h6, .ref h7, .ref h8, .ref h9, .ref h1, .ref h3, .int 0, .ref h10, .ref h11, .ref h12, .ref h13, .ref h14, .ref h15, .ref h16, .int 0, .int 0, .int 0, .ref h17, .ref h18, .int 0, .int 0, .int 0, .ref h2, .ref h4, .ref h19, .ref h20, .ref h21, .ref h22, .ref h23, .int 0, .ref h24, .int 0, .ref h25])), (h1, .inl (cI, 5, .inl (fun _ => 0))), (h2, .inl (cI, 5, .inl (fun _ => 0))), (h3, .inl (cI, 5, .inl (fun _ => 0))), (h4, .inl (cI, 5, .inl (fun _ => 0)))]) [0, 1, 2, 3, 4] (by decide) rfl
  exact W.vret hx hb hr (fun t ht hW => ⟨⟨(), rfl, trivial, ⟨by rw [ht]; exact hP9, hD9⟩⟩, hS.F ht⟩) hS.2.2 dX10_look_22
def sw_k_X10_isSorted : List Cond := .code yX10_isSorted cX10_isSorted 3 (some .boolean) :: (([.fieldLink RX10 13 "TopTurnedModel" "told" "[I"] : List Cond) ++ (wsX100 ++ (([] : List Cond))))
theorem gd_k_X10_isSorted : ∀ w ∈ sw_k_X10_isSorted, (w.onTables && w.keeps) = true ∨ ∃ ty, w = .arrayClass ty := List.forall_mem_cons.mpr ⟨good_of_word rfl, List.forall_mem_append.mpr ⟨fun w h => good_of_word (List.all_eq_true.mp (by decide +kernel : (([.fieldLink RX10 13 "TopTurnedModel" "told" "[I"] : List Cond)).all goodWord = true) w h), List.forall_mem_append.mpr ⟨gw_X10, fun _ h => absurd h List.not_mem_nil⟩⟩⟩
theorem iw_k_X10_isSorted_X10 : ∀ w ∈ wsX100, w ∈ sw_k_X10_isSorted := fun _ h => List.mem_cons_of_mem _ (List.mem_append_right _ (List.mem_append_left _ h))
set_option maxHeartbeats 4000000 in
set_option maxRecDepth 100000 in
theorem k_X10_isSorted (l : Launch) (D : va_G) (cC cI cZ : ClassId) (h0 h1 h2 h3 h4 h5 h6 h7 h8 h9 h10 h11 h12 h13 h14 h15 h16 h17 h18 h19 h20 h21 h22 h23 h24 h25 : Nat) (sz : Nat) : Met l yX10_isSorted sw_k_X10_isSorted ({ frames := 2, cells := 0, slots := 0, locals := 100 }) (va_Pc [.ref h0] (kPre D cC cI cZ [(h0, .inr (10, [.ref h2, .ref h1, .ref h3, .ref h4, .ref h5, .ref h6, .ref h7, .int 0, .ref h8, .ref h9, .ref h10, .ref h11, .ref h12, .ref h13, .ref h14, .int 0, .int 0, .int 0, .ref h15, .ref h16, .int 0, .int 0, .int 0, .ref h17, .ref h18, .ref h19, .ref h20, .ref h21, .ref h22, .ref h23, .int 0, .ref h24, .int 0, .ref h25])), (h1, .inl (cI, 9, .inl (upd (upd (upd (fun _ => 0) (Int32.toNatClampNeg 3) 5) (Int32.toNatClampNeg 4) 9) (Int32.toNatClampNeg 7) 1)))] sz)) (va_Qi (fun (r : Int32) (_ : Unit) => r = 1) (fun _ _ => True) (fun _ => False)) 0 0 (fun _ => False) := by
  refine Met.ofW (cc := cX10_isSorted) (maxL := 3) (ret := (some .boolean)) (by decide) rfl ?_
  intro p e s m args below meth c s₁ B hml hv
  obtain ⟨rfl, hsz, hP, hK, hD0⟩ := hv
  have hx := B.exec
  have hb := B.bytes
  have hr := B.returns
  have hts := atoms_spec (ws := sw_k_X10_isSorted) B.pre
  have hown : s.vm.findClass RX10 = some m.cls := findClass_of_methodNamed B.named
  have hlocks := B.notSynchronized
  subst hsz
  have hD := hD0
  have hS : va_S (fun _ => False) s.heap s.heap [] := va_S.rf
  have hl := lv_entry ([.ref h0]) (n := 3) (Nat.le_of_ble_eq_true rfl)
  rw [lg_entry_eq]
  generalize (lg_sl ([.ref h0]) ++ List.replicate (3 - (lg_sl ([.ref h0])).length) Slot.unset).toArray = ls at hl ⊢
  have hl : lv_has ls 3 [(0, .ref h0)] := hl
  refine lv_iconst (v := 1) hx hb dX10_isSorted_0 (by decide) ?_
  refine lv_istore_n (lv' := [(1, .int 1), (0, .ref h0)]) hx hb dX10_isSorted_1 rfl hl (by decide) rfl (fun ls hl => ?_)
  refine lv_iconst (v := 0) hx hb dX10_isSorted_2 (by decide) ?_
  refine lv_istore_n (lv' := [(2, .int 0), (1, .int 1), (0, .ref h0)]) hx hb dX10_isSorted_3 rfl hl (by decide) rfl (fun ls hl => ?_)
  refine lv_iload_n hx hb dX10_isSorted_4 rfl (lv_at hl 0 rfl) ?_
  refine lv_aload_n hx hb dX10_isSorted_5 rfl (lv_at hl 2 rfl) ?_
  refine va_get (D := D) (ci := 10) (v := .ref h1) (C := RX10) (T := TX10) (N := 34) hx hb hts iw_k_X10_isSorted_X10 hown hK hP 0 rfl rfl 1 (by decide) (hts (.fieldLink RX10 13 "TopTurnedModel" "told" "[I") (by decide +kernel)) (fun _ h9 => h9) rfl dX10_isSorted_6 ?_
  refine lv_iconst (v := 0) hx hb dX10_isSorted_9 (by decide) ?_
  refine va_iald (i := 0) hx hb hK hP 1 1 rfl rfl (vp_in_iff.mpr (by decide)) dX10_isSorted_10 ?_
  refine kt_eq (y := 0) (by decide +kernel) ?_
  refine lv_icmp_ge (tgt := 79) hx hb dX10_isSorted_11 (by decide) (fun _ => ?_) (fun c => absurd (by decide) c)
  refine lv_iload_n hx hb dX10_isSorted_79 rfl (lv_at hl 1 rfl) ?_
  exact W.zret (v := 1) hx hb hr rfl (fun t ht hW => ⟨⟨1, (), rfl, rfl, trivial⟩, hS.F ht⟩) hS.2.2 dX10_isSorted_80
def sw_k_X10_inOrder : List Cond := .code yX10_inOrder cX10_inOrder 1 (some .int) :: (([.methodLink RX10 161 yX10_look, .instanceMethod yX10_look, .selects RX10 yX10_look yX10_look, .initialized RX10, .methodLink RX10 174 yX10_isSorted, .instanceMethod yX10_isSorted, .selects RX10 yX10_isSorted yX10_isSorted] : List Cond) ++ (sw_k_X10_look ++ (sw_k_X10_isSorted ++ (([] : List Cond)))))
theorem gd_k_X10_inOrder : ∀ w ∈ sw_k_X10_inOrder, (w.onTables && w.keeps) = true ∨ ∃ ty, w = .arrayClass ty := List.forall_mem_cons.mpr ⟨good_of_word rfl, List.forall_mem_append.mpr ⟨fun w h => good_of_word (List.all_eq_true.mp (by decide +kernel : (([.methodLink RX10 161 yX10_look, .instanceMethod yX10_look, .selects RX10 yX10_look yX10_look, .initialized RX10, .methodLink RX10 174 yX10_isSorted, .instanceMethod yX10_isSorted, .selects RX10 yX10_isSorted yX10_isSorted] : List Cond)).all goodWord = true) w h), List.forall_mem_append.mpr ⟨gd_k_X10_look, List.forall_mem_append.mpr ⟨gd_k_X10_isSorted, fun _ h => absurd h List.not_mem_nil⟩⟩⟩⟩
theorem gc_k_X10_inOrder_k_X10_look : GoodIn sw_k_X10_inOrder sw_k_X10_look := fun w h => ⟨List.mem_cons_of_mem _ (List.mem_append_right _ (List.mem_append_left _ h)), gd_k_X10_look w h⟩
theorem gc_k_X10_inOrder_k_X10_isSorted : GoodIn sw_k_X10_inOrder sw_k_X10_isSorted := fun w h => ⟨List.mem_cons_of_mem _ (List.mem_append_right _ (List.mem_append_right _ (List.mem_append_left _ h))), gd_k_X10_isSorted w h⟩
set_option maxHeartbeats 4000000 in
set_option maxRecDepth 100000 in
theorem k_X10_inOrder (l : Launch) (D : va_G) (cC cI cZ : ClassId) (h0 h1 h2 h3 h4 h5 h6 h7 h8 h9 h10 h11 h12 h13 h14 h15 h16 h17 h18 h19 h20 h21 h22 h23 h24 h25 : Nat) (sz : Nat) : Met l yX10_inOrder sw_k_X10_inOrder ({ frames := 6, cells := 0, slots := 0, locals := 300 }) (va_Pc [.ref h0] (kPre D cC cI cZ [(h0, .inr (10, [.ref h6, .ref h5, .ref h7, .ref h8, .ref h9, .ref h1, .ref h3, .int 0, .ref h10, .ref h11, .ref h12, .ref h13, .ref h14, .ref h15, .ref h16, .int 0, .int 0, .int 0, .ref h17, .ref h18, .int 0, .int 0, .int 0, .ref h2, .ref h4, .ref h19, .ref h20, .ref h21, .ref h22, .ref h23, .int 0, .ref h24, .int 0, .ref h25])), (h1, .inl (cI, 5, .inl (fun _ => 0))), (h2, .inl (cI, 5, .inl (fun _ => 0))), (h3, .inl (cI, 5, .inl (fun _ => 0))), (h4, .inl (cI, 5, .inl (fun _ => 0))), (h5, .inl (cI, 9, .inl (upd (upd (upd (fun _ => 0) (Int32.toNatClampNeg 3) 5) (Int32.toNatClampNeg 4) 9) (Int32.toNatClampNeg 7) 1)))] sz)) (va_Qi (fun (r : Int32) (_ : Unit) => r = 1) (fun _ _ => True) (va_A [(h0, .inr (10, [.ref h6, .ref h5, .ref h7, .ref h8, .ref h9, .ref h1, .ref h3, .int 0, .ref h10, .ref h11, .ref h12, .ref h13, .ref h14, .ref h15, .ref h16, .int 0, .int 0, .int 0, .ref h17, .ref h18, .int 0, .int 0, .int 0, .ref h2, .ref h4, .ref h19, .ref h20, .ref h21, .ref h22, .ref h23, .int 0, .ref h24, .int 0, .ref h25])), (h1, .inl (cI, 5, .inl (fun _ => 0))), (h2, .inl (cI, 5, .inl (fun _ => 0))), (h3, .inl (cI, 5, .inl (fun _ => 0))), (h4, .inl (cI, 5, .inl (fun _ => 0))), (h5, .inl (cI, 9, .inl (upd (upd (upd (fun _ => 0) (Int32.toNatClampNeg 3) 5) (Int32.toNatClampNeg 4) 9) (Int32.toNatClampNeg 7) 1)))] sz)) 0 0 (va_A [(h0, .inr (10, [.ref h6, .ref h5, .ref h7, .ref h8, .ref h9, .ref h1, .ref h3, .int 0, .ref h10, .ref h11, .ref h12, .ref h13, .ref h14, .ref h15, .ref h16, .int 0, .int 0, .int 0, .ref h17, .ref h18, .int 0, .int 0, .int 0, .ref h2, .ref h4, .ref h19, .ref h20, .ref h21, .ref h22, .ref h23, .int 0, .ref h24, .int 0, .ref h25])), (h1, .inl (cI, 5, .inl (fun _ => 0))), (h2, .inl (cI, 5, .inl (fun _ => 0))), (h3, .inl (cI, 5, .inl (fun _ => 0))), (h4, .inl (cI, 5, .inl (fun _ => 0))), (h5, .inl (cI, 9, .inl (upd (upd (upd (fun _ => 0) (Int32.toNatClampNeg 3) 5) (Int32.toNatClampNeg 4) 9) (Int32.toNatClampNeg 7) 1)))] sz) := by
  refine Met.ofW (cc := cX10_inOrder) (maxL := 1) (ret := (some .int)) (by decide) rfl ?_
  intro p e s m args below meth c s₁ B hml hv
  obtain ⟨rfl, hsz, hP, hK, hD0⟩ := hv
  have hx := B.exec
  have hb := B.bytes
  have hr := B.returns
  have hts := atoms_spec (ws := sw_k_X10_inOrder) B.pre
  have hown : s.vm.findClass RX10 = some m.cls := findClass_of_methodNamed B.named
  have hlocks := B.notSynchronized
  subst hsz
  have hD := hD0.self (sz := s.heap.size)
  generalize hAe : va_A [(h0, .inr (10, [.ref h6, .ref h5, .ref h7, .ref h8, .ref h9, .ref h1, .ref h3, .int 0, .ref h10, .ref h11, .ref h12, .ref h13, .ref h14, .ref h15, .ref h16, .int 0, .int 0, .int 0, .ref h17, .ref h18, .int 0, .int 0, .int 0, .ref h2, .ref h4, .ref h19, .ref h20, .ref h21, .ref h22, .ref h23, .int 0, .ref h24, .int 0, .ref h25])), (h1, .inl (cI, 5, .inl (fun _ => 0))), (h2, .inl (cI, 5, .inl (fun _ => 0))), (h3, .inl (cI, 5, .inl (fun _ => 0))), (h4, .inl (cI, 5, .inl (fun _ => 0))), (h5, .inl (cI, 9, .inl (upd (upd (upd (fun _ => 0) (Int32.toNatClampNeg 3) 5) (Int32.toNatClampNeg 4) 9) (Int32.toNatClampNeg 7) 1)))] s.heap.size = A at hD ⊢
  have hA : ∀ q : Nat, s.heap.size ≤ q → A q := fun q h => by rw [← hAe]; exact Or.inr h
  have hS : va_S A s.heap s.heap [] := va_S.rf
  have hl := lv_entry ([.ref h0]) (n := 1) (Nat.le_of_ble_eq_true rfl)
  rw [lg_entry_eq]
  generalize (lg_sl ([.ref h0]) ++ List.replicate (1 - (lg_sl ([.ref h0])).length) Slot.unset).toArray = ls at hl ⊢
  have hl : lv_has ls 1 [(0, .ref h0)] := hl
  refine lv_aload_n hx hb dX10_inOrder_0 rfl (lv_at hl 0 rfl) ?_
  have hPc := hP.sub (ws' := [(h0, .inr (10, [.ref h6, .ref h5, .ref h7, .ref h8, .ref h9, .ref h1, .ref h3, .int 0, .ref h10, .ref h11, .ref h12, .ref h13, .ref h14, .ref h15, .ref h16, .int 0, .int 0, .int 0, .ref h17, .ref h18, .int 0, .int 0, .int 0, .ref h2, .ref h4, .ref h19, .ref h20, .ref h21, .ref h22, .ref h23, .int 0, .ref h24, .int 0, .ref h25])), (h1, .inl (cI, 5, .inl (fun _ => 0))), (h2, .inl (cI, 5, .inl (fun _ => 0))), (h3, .inl (cI, 5, .inl (fun _ => 0))), (h4, .inl (cI, 5, .inl (fun _ => 0)))]) [0, 1, 2, 3, 4] rfl
  have hDc := hD.sub (ws' := [(h0, .inr (10, [.ref h6, .ref h5, .ref h7, .ref h8, .ref h9, .ref h1, .ref h3, .int 0, .ref h10, .ref h11, .ref h12, .ref h13, .ref h14, .ref h15, .ref h16, .int 0, .int 0, .int 0, .ref h17, .ref h18, .int 0, .int 0, .int 0, .ref h2, .ref h4, .ref h19, .ref h20, .ref h21, .ref h22, .ref h23, .int 0, .ref h24, .int 0, .ref h25])), (h1, .inl (cI, 5, .inl (fun _ => 0))), (h2, .inl (cI, 5, .inl (fun _ => 0))), (h3, .inl (cI, 5, .inl (fun _ => 0))), (h4, .inl (cI, 5, .inl (fun _ => 0)))]) [0, 1, 2, 3, 4] (by decide) rfl
  have hFc := va_free (wc := [(h0, .inr (10, [.ref h6, .ref h5, .ref h7, .ref h8, .ref h9, .ref h1, .ref h3, .int 0, .ref h10, .ref h11, .ref h12, .ref h13, .ref h14, .ref h15, .ref h16, .int 0, .int 0, .int 0, .ref h17, .ref h18, .int 0, .int 0, .int 0, .ref h2, .ref h4, .ref h19, .ref h20, .ref h21, .ref h22, .ref h23, .int 0, .ref h24, .int 0, .ref h25])), (h1, .inl (cI, 5, .inl (fun _ => 0))), (h2, .inl (cI, 5, .inl (fun _ => 0))), (h3, .inl (cI, 5, .inl (fun _ => 0))), (h4, .inl (cI, 5, .inl (fun _ => 0)))]) hD hS hA [0, 1, 2, 3, 4] rfl
  refine va_callv (va_runV (As := []) (rest := []) ⟨hx, hb, hml, hown, hts⟩ (k_X10_look l D cC cI cZ h0 h1 h2 h3 h4 h6 h5 h7 h8 h9 h10 h11 h12 h13 h14 h15 h16 h17 h18 h19 h20 h21 h22 h23 h24 h25 s.heap.size ) (cwV (C := RX10) 0 hts (goodIn_app (goodIn_of _ (by decide +kernel)) gc_k_X10_inOrder_k_X10_look) rfl rfl rfl (by decide +kernel) ⟨(Nat.le_of_ble_eq_true rfl), (Nat.le_of_ble_eq_true rfl)⟩) (kPreV hK hPc hDc (va_recv hK hPc (ci := 10) (q0 := 0) rfl rfl)) rfl rfl hl.1 rfl (lv_room (Nat.le_of_ble_eq_true rfl)) dX10_inOrder_1 ⟨(Nat.le_of_ble_eq_true rfl), (Nat.le_of_ble_eq_true rfl)⟩) hS (fun q _ h => hFc q h) hFc (fun u t H1 locs ht hvm hw hB hz1 hk1 hS => ?_)
  obtain ⟨hP1, hD1⟩ := hB
  rw [ht] at hP1
  obtain ⟨hP, hD⟩ := va_join (wr := [(h5, .inl (cI, 9, .inl (upd (upd (upd (fun _ => 0) (Int32.toNatClampNeg 3) 5) (Int32.toNatClampNeg 4) 9) (Int32.toNatClampNeg 7) 1)))]) (w1 := [(h0, .inr (10, [.ref h6, .ref h5, .ref h7, .ref h8, .ref h9, .ref h1, .ref h3, .int 0, .ref h10, .ref h11, .ref h12, .ref h13, .ref h14, .ref h15, .ref h16, .int 0, .int 0, .int 0, .ref h17, .ref h18, .int 0, .int 0, .int 0, .ref h2, .ref h4, .ref h19, .ref h20, .ref h21, .ref h22, .ref h23, .int 0, .ref h24, .int 0, .ref h25])), (h1, .inl (cI, 5, .inl (fun _ => 0))), (h2, .inl (cI, 5, .inl (fun _ => 0))), (h3, .inl (cI, 5, .inl (fun _ => 0))), (h4, .inl (cI, 5, .inl (fun _ => 0)))]) hP hD [0, 1, 2, 3, 4] [5] rfl rfl (by decide) (by decide) hk1 hFc hP1 hD1
  generalize H1 = H at hP hS ⊢
  have hP : va_P D vwCl [(h5, .inl (cI, 9, .inl (upd (upd (upd (fun _ => 0) (Int32.toNatClampNeg 3) 5) (Int32.toNatClampNeg 4) 9) (Int32.toNatClampNeg 7) 1))), (h0, .inr (10, [.ref h6, .ref h5, .ref h7, .ref h8, .ref h9, .ref h1, .ref h3, .int 0, .ref h10, .ref h11, .ref h12, .ref h13, .ref h14, .ref h15, .ref h16, .int 0, .int 0, .int 0, .ref h17, .ref h18, .int 0, .int 0, .int 0, .ref h2, .ref h4, .ref h19, .ref h20, .ref h21, .ref h22, .ref h23, .int 0, .ref h24, .int 0, .ref h25])), (h1, .inl (cI, 5, .inl (fun _ => 0))), (h2, .inl (cI, 5, .inl (fun _ => 0))), (h3, .inl (cI, 5, .inl (fun _ => 0))), (h4, .inl (cI, 5, .inl (fun _ => 0)))] H := hP
  have hD : va_D A [(h5, .inl (cI, 9, .inl (upd (upd (upd (fun _ => 0) (Int32.toNatClampNeg 3) 5) (Int32.toNatClampNeg 4) 9) (Int32.toNatClampNeg 7) 1))), (h0, .inr (10, [.ref h6, .ref h5, .ref h7, .ref h8, .ref h9, .ref h1, .ref h3, .int 0, .ref h10, .ref h11, .ref h12, .ref h13, .ref h14, .ref h15, .ref h16, .int 0, .int 0, .int 0, .ref h17, .ref h18, .int 0, .int 0, .int 0, .ref h2, .ref h4, .ref h19, .ref h20, .ref h21, .ref h22, .ref h23, .int 0, .ref h24, .int 0, .ref h25])), (h1, .inl (cI, 5, .inl (fun _ => 0))), (h2, .inl (cI, 5, .inl (fun _ => 0))), (h3, .inl (cI, 5, .inl (fun _ => 0))), (h4, .inl (cI, 5, .inl (fun _ => 0)))] := hD
  refine lv_aload_n hx hb dX10_inOrder_4 rfl (lv_at hl 0 rfl) ?_
  have hPc := hP.sub (ws' := [(h0, .inr (10, [.ref h6, .ref h5, .ref h7, .ref h8, .ref h9, .ref h1, .ref h3, .int 0, .ref h10, .ref h11, .ref h12, .ref h13, .ref h14, .ref h15, .ref h16, .int 0, .int 0, .int 0, .ref h17, .ref h18, .int 0, .int 0, .int 0, .ref h2, .ref h4, .ref h19, .ref h20, .ref h21, .ref h22, .ref h23, .int 0, .ref h24, .int 0, .ref h25])), (h5, .inl (cI, 9, .inl (upd (upd (upd (fun _ => 0) (Int32.toNatClampNeg 3) 5) (Int32.toNatClampNeg 4) 9) (Int32.toNatClampNeg 7) 1)))]) [1, 0] rfl
  have hDc := hD.sub (ws' := [(h0, .inr (10, [.ref h6, .ref h5, .ref h7, .ref h8, .ref h9, .ref h1, .ref h3, .int 0, .ref h10, .ref h11, .ref h12, .ref h13, .ref h14, .ref h15, .ref h16, .int 0, .int 0, .int 0, .ref h17, .ref h18, .int 0, .int 0, .int 0, .ref h2, .ref h4, .ref h19, .ref h20, .ref h21, .ref h22, .ref h23, .int 0, .ref h24, .int 0, .ref h25])), (h5, .inl (cI, 9, .inl (upd (upd (upd (fun _ => 0) (Int32.toNatClampNeg 3) 5) (Int32.toNatClampNeg 4) 9) (Int32.toNatClampNeg 7) 1)))]) [1, 0] (by decide) rfl
  refine va_calli (va_runV (As := []) (rest := []) ⟨hx, hb, hml, hown, hts⟩ (k_X10_isSorted l D cC cI cZ h0 h5 h6 h7 h8 h9 h1 h3 h10 h11 h12 h13 h14 h15 h16 h17 h18 h2 h4 h19 h20 h21 h22 h23 h24 h25 H.size ) (cwV (C := RX10) 0 hts (goodIn_app (goodIn_of _ (by decide +kernel)) gc_k_X10_inOrder_k_X10_isSorted) rfl rfl rfl (by decide +kernel) ⟨(Nat.le_of_ble_eq_true rfl), (Nat.le_of_ble_eq_true rfl)⟩) (kPreV hK hPc hDc (va_recv hK hPc (ci := 10) (q0 := 0) rfl rfl)) rfl rfl hl.1 rfl (lv_room (Nat.le_of_ble_eq_true rfl)) dX10_inOrder_5 ⟨(Nat.le_of_ble_eq_true rfl), (Nat.le_of_ble_eq_true rfl)⟩) hS (fun q _ h => False.elim h) (fun q h => False.elim h) (fun r1 u t H1 locs ht hvm hw hB hz1 hk1 hS => ?_)
  have hP := hP.kept (H1 := H1) (fun k q hk => hk1 q.1 (hP k q hk).lt (fun h => h))
  generalize H1 = H at hP hS ⊢
  have hw : r1 = 1 := hw
  subst hw
  refine lv_if_eq (tgt := 15) hx hb dX10_inOrder_8 (by decide) (fun c => absurd c (by decide)) (fun _ => ?_)
  refine lv_iconst (v := 1) hx hb dX10_inOrder_11 (by decide) ?_
  refine lv_goto (tgt := 16) hx hb dX10_inOrder_12 (by decide) ?_
  refine W.widen (k := 0) (n := 0) (Nat.le_of_ble_eq_true rfl) (Nat.le_of_ble_eq_true rfl) ?_
  exact W.iret (v := 1) hx hb hr (fun t ht hW => ⟨⟨1, (), rfl, rfl, trivial⟩, hS.F ht⟩) hS.2.2 dX10_inOrder_16
def sw_k_X10_gapsSeen : List Cond := .code yX10_gapsSeen cX10_gapsSeen 7 (some .int) :: (([.fieldLink RX10 13 "TopTurnedModel" "told" "[I"] : List Cond) ++ (wsX100 ++ (([] : List Cond))))
theorem gd_k_X10_gapsSeen : ∀ w ∈ sw_k_X10_gapsSeen, (w.onTables && w.keeps) = true ∨ ∃ ty, w = .arrayClass ty := List.forall_mem_cons.mpr ⟨good_of_word rfl, List.forall_mem_append.mpr ⟨fun w h => good_of_word (List.all_eq_true.mp (by decide +kernel : (([.fieldLink RX10 13 "TopTurnedModel" "told" "[I"] : List Cond)).all goodWord = true) w h), List.forall_mem_append.mpr ⟨gw_X10, fun _ h => absurd h List.not_mem_nil⟩⟩⟩
theorem iw_k_X10_gapsSeen_X10 : ∀ w ∈ wsX100, w ∈ sw_k_X10_gapsSeen := fun _ h => List.mem_cons_of_mem _ (List.mem_append_right _ (List.mem_append_left _ h))
set_option maxHeartbeats 4000000 in
set_option maxRecDepth 100000 in
theorem k_X10_gapsSeen (l : Launch) (D : va_G) (cC cI cZ : ClassId) (h0 h1 h2 h3 h4 h5 h6 h7 h8 h9 h10 h11 h12 h13 h14 h15 h16 h17 h18 h19 h20 h21 h22 h23 h24 h25 : Nat) (sz : Nat) : Met l yX10_gapsSeen sw_k_X10_gapsSeen ({ frames := 2, cells := 0, slots := 0, locals := 100 }) (va_Pc [.ref h0] (kPre D cC cI cZ [(h0, .inr (10, [.ref h2, .ref h1, .ref h3, .ref h4, .ref h5, .ref h6, .ref h7, .int 0, .ref h8, .ref h9, .ref h10, .ref h11, .ref h12, .ref h13, .ref h14, .int 0, .int 0, .int 0, .ref h15, .ref h16, .int 0, .int 0, .int 0, .ref h17, .ref h18, .ref h19, .ref h20, .ref h21, .ref h22, .ref h23, .int 0, .ref h24, .int 0, .ref h25])), (h1, .inl (cI, 9, .inl (upd (upd (upd (fun _ => 0) (Int32.toNatClampNeg 3) 5) (Int32.toNatClampNeg 4) 9) (Int32.toNatClampNeg 7) 1)))] sz)) (va_Qi (fun (r : Int32) (_ : Unit) => r = 0) (fun _ _ => True) (fun _ => False)) 0 0 (fun _ => False) := by
  refine Met.ofW (cc := cX10_gapsSeen) (maxL := 7) (ret := (some .int)) (by decide) rfl ?_
  intro p e s m args below meth c s₁ B hml hv
  obtain ⟨rfl, hsz, hP, hK, hD0⟩ := hv
  have hx := B.exec
  have hb := B.bytes
  have hr := B.returns
  have hts := atoms_spec (ws := sw_k_X10_gapsSeen) B.pre
  have hown : s.vm.findClass RX10 = some m.cls := findClass_of_methodNamed B.named
  have hlocks := B.notSynchronized
  subst hsz
  have hD := hD0
  have hS : va_S (fun _ => False) s.heap s.heap [] := va_S.rf
  have hl := lv_entry ([.ref h0]) (n := 7) (Nat.le_of_ble_eq_true rfl)
  rw [lg_entry_eq]
  generalize (lg_sl ([.ref h0]) ++ List.replicate (7 - (lg_sl ([.ref h0])).length) Slot.unset).toArray = ls at hl ⊢
  have hl : lv_has ls 7 [(0, .ref h0)] := hl
  refine lv_aload_n hx hb dX10_gapsSeen_0 rfl (lv_at hl 0 rfl) ?_
  refine va_get (D := D) (ci := 10) (v := .ref h1) (C := RX10) (T := TX10) (N := 34) hx hb hts iw_k_X10_gapsSeen_X10 hown hK hP 0 rfl rfl 1 (by decide) (hts (.fieldLink RX10 13 "TopTurnedModel" "told" "[I") (by decide +kernel)) (fun _ h9 => h9) rfl dX10_gapsSeen_1 ?_
  refine lv_iconst (v := 0) hx hb dX10_gapsSeen_4 (by decide) ?_
  refine va_iald (i := 0) hx hb hK hP 1 1 rfl rfl (vp_in_iff.mpr (by decide)) dX10_gapsSeen_5 ?_
  refine kt_eq (y := 0) (by decide +kernel) ?_
  refine lv_istore_n (lv' := [(1, .int 0), (0, .ref h0)]) hx hb dX10_gapsSeen_6 rfl hl (by decide) rfl (fun ls hl => ?_)
  refine lv_iconst (v := 0) hx hb dX10_gapsSeen_7 (by decide) ?_
  refine lv_istore_n (lv' := [(2, .int 0), (1, .int 0), (0, .ref h0)]) hx hb dX10_gapsSeen_8 rfl hl (by decide) rfl (fun ls hl => ?_)
  refine lv_iconst (v := 0) hx hb dX10_gapsSeen_9 (by decide) ?_
  refine lv_istore_n (lv' := [(3, .int 0), (2, .int 0), (1, .int 0), (0, .ref h0)]) hx hb dX10_gapsSeen_10 rfl hl (by decide) rfl (fun ls hl => ?_)
  refine lv_iload_n hx hb dX10_gapsSeen_11 rfl (lv_at hl 0 rfl) ?_
  refine lv_iload_n hx hb dX10_gapsSeen_12 rfl (lv_at hl 2 rfl) ?_
  refine lv_icmp_ge (tgt := 129) hx hb dX10_gapsSeen_13 (by decide) (fun _ => ?_) (fun c => absurd (by decide) c)
  refine lv_iload_n hx hb dX10_gapsSeen_129 rfl (lv_at hl 1 rfl) ?_
  exact W.iret (v := 0) hx hb hr (fun t ht hW => ⟨⟨0, (), rfl, rfl, trivial⟩, hS.F ht⟩) hS.2.2 dX10_gapsSeen_130
