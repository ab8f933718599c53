def sw_k_X10_gaps : List Cond := .code yX10_gaps cX10_gaps 1 (some .int) :: (([.methodLink RX10 161 yX10_look, .instanceMethod yX10_look, .selects RX10 yX10_look yX10_look, .initialized RX10, .methodLink RX10 178 yX10_gapsSeen, .instanceMethod yX10_gapsSeen, .selects RX10 yX10_gapsSeen yX10_gapsSeen] : List Cond) ++ (sw_k_X10_look ++ (sw_k_X10_gapsSeen ++ (([] : List Cond)))))
theorem gd_k_X10_gaps : ∀ w ∈ sw_k_X10_gaps, (w.onTables && w.keeps) = true ∨ ∃ ty, w = .arrayClass ty := List.forall_mem_cons.mpr ⟨good_of_word rfl, List.forall_mem_append.mpr ⟨fun w h => good_of_word (List.all_eq_true.mp (by decide +kernel : (([.methodLink RX10 161 yX10_look, .instanceMethod yX10_look, .selects RX10 yX10_look yX10_look, .initialized RX10, .methodLink RX10 178 yX10_gapsSeen, .instanceMethod yX10_gapsSeen, .selects RX10 yX10_gapsSeen yX10_gapsSeen] : List Cond)).all goodWord = true) w h), List.forall_mem_append.mpr ⟨gd_k_X10_look, List.forall_mem_append.mpr ⟨gd_k_X10_gapsSeen, fun _ h => absurd h List.not_mem_nil⟩⟩⟩⟩
theorem gc_k_X10_gaps_k_X10_look : GoodIn sw_k_X10_gaps sw_k_X10_look := fun w h => ⟨List.mem_cons_of_mem _ (List.mem_append_right _ (List.mem_append_left _ h)), gd_k_X10_look w h⟩
theorem gc_k_X10_gaps_k_X10_gapsSeen : GoodIn sw_k_X10_gaps sw_k_X10_gapsSeen := fun w h => ⟨List.mem_cons_of_mem _ (List.mem_append_right _ (List.mem_append_right _ (List.mem_append_left _ h))), gd_k_X10_gapsSeen w h⟩
set_option maxHeartbeats 4000000 in
set_option maxRecDepth 100000 in
theorem k_X10_gaps (l : Launch) (D : va_G) (cC cI cZ : ClassId) (h0 h1 h2 h3 h4 h5 h6 h7 h8 h9 h10 h11 h12 h13 h14 h15 h16 h17 h18 h19 h20 h21 h22 h23 h24 h25 : Nat) (sz : Nat) : Met l yX10_gaps sw_k_X10_gaps ({ frames := 6, cells := 0, slots := 0, locals := 300 }) (va_Pc [.ref h0] (kPre D cC cI cZ [(h0, .inr (10, [.ref h6, .ref h5, .ref h7, .ref h8, .ref h9, .ref h1, .ref h3, .int 0, .ref h10, .ref h11, .ref h12, .ref h13, .ref h14, .ref h15, .ref h16, .int 0, .int 0, .int 0, .ref h17, .ref h18, .int 0, .int 0, .int 0, .ref h2, .ref h4, .ref h19, .ref h20, .ref h21, .ref h22, .ref h23, .int 0, .ref h24, .int 0, .ref h25])), (h1, .inl (cI, 5, .inl (fun _ => 0))), (h2, .inl (cI, 5, .inl (fun _ => 0))), (h3, .inl (cI, 5, .inl (fun _ => 0))), (h4, .inl (cI, 5, .inl (fun _ => 0))), (h5, .inl (cI, 9, .inl (upd (upd (upd (fun _ => 0) (Int32.toNatClampNeg 3) 5) (Int32.toNatClampNeg 4) 9) (Int32.toNatClampNeg 7) 1)))] sz)) (va_Qi (fun (r : Int32) (_ : Unit) => r = 0) (fun _ _ => True) (va_A [(h0, .inr (10, [.ref h6, .ref h5, .ref h7, .ref h8, .ref h9, .ref h1, .ref h3, .int 0, .ref h10, .ref h11, .ref h12, .ref h13, .ref h14, .ref h15, .ref h16, .int 0, .int 0, .int 0, .ref h17, .ref h18, .int 0, .int 0, .int 0, .ref h2, .ref h4, .ref h19, .ref h20, .ref h21, .ref h22, .ref h23, .int 0, .ref h24, .int 0, .ref h25])), (h1, .inl (cI, 5, .inl (fun _ => 0))), (h2, .inl (cI, 5, .inl (fun _ => 0))), (h3, .inl (cI, 5, .inl (fun _ => 0))), (h4, .inl (cI, 5, .inl (fun _ => 0))), (h5, .inl (cI, 9, .inl (upd (upd (upd (fun _ => 0) (Int32.toNatClampNeg 3) 5) (Int32.toNatClampNeg 4) 9) (Int32.toNatClampNeg 7) 1)))] sz)) 0 0 (va_A [(h0, .inr (10, [.ref h6, .ref h5, .ref h7, .ref h8, .ref h9, .ref h1, .ref h3, .int 0, .ref h10, .ref h11, .ref h12, .ref h13, .ref h14, .ref h15, .ref h16, .int 0, .int 0, .int 0, .ref h17, .ref h18, .int 0, .int 0, .int 0, .ref h2, .ref h4, .ref h19, .ref h20, .ref h21, .ref h22, .ref h23, .int 0, .ref h24, .int 0, .ref h25])), (h1, .inl (cI, 5, .inl (fun _ => 0))), (h2, .inl (cI, 5, .inl (fun _ => 0))), (h3, .inl (cI, 5, .inl (fun _ => 0))), (h4, .inl (cI, 5, .inl (fun _ => 0))), (h5, .inl (cI, 9, .inl (upd (upd (upd (fun _ => 0) (Int32.toNatClampNeg 3) 5) (Int32.toNatClampNeg 4) 9) (Int32.toNatClampNeg 7) 1)))] sz) := by
  refine Met.ofW (cc := cX10_gaps) (maxL := 1) (ret := (some .int)) (by decide) rfl ?_
  intro p e s m args below meth c s₁ B hml hv
  obtain ⟨rfl, hsz, hP, hK, hD0⟩ := hv
  have hx := B.exec
  have hb := B.bytes
  have hr := B.returns
  have hts := atoms_spec (ws := sw_k_X10_gaps) B.pre
  have hown : s.vm.findClass RX10 = some m.cls := findClass_of_methodNamed B.named
  have hlocks := B.notSynchronized
  subst hsz
  have hD := hD0.self (sz := s.heap.size)
  generalize hAe : va_A [(h0, .inr (10, [.ref h6, .ref h5, .ref h7, .ref h8, .ref h9, .ref h1, .ref h3, .int 0, .ref h10, .ref h11, .ref h12, .ref h13, .ref h14, .ref h15, .ref h16, .int 0, .int 0, .int 0, .ref h17, .ref h18, .int 0, .int 0, .int 0, .ref h2, .ref h4, .ref h19, .ref h20, .ref h21, .ref h22, .ref h23, .int 0, .ref h24, .int 0, .ref h25])), (h1, .inl (cI, 5, .inl (fun _ => 0))), (h2, .inl (cI, 5, .inl (fun _ => 0))), (h3, .inl (cI, 5, .inl (fun _ => 0))), (h4, .inl (cI, 5, .inl (fun _ => 0))), (h5, .inl (cI, 9, .inl (upd (upd (upd (fun _ => 0) (Int32.toNatClampNeg 3) 5) (Int32.toNatClampNeg 4) 9) (Int32.toNatClampNeg 7) 1)))] s.heap.size = A at hD ⊢
  have hA : ∀ q : Nat, s.heap.size ≤ q → A q := fun q h => by rw [← hAe]; exact Or.inr h
  have hS : va_S A s.heap s.heap [] := va_S.rf
  have hl := lv_entry ([.ref h0]) (n := 1) (Nat.le_of_ble_eq_true rfl)
  rw [lg_entry_eq]
  generalize (lg_sl ([.ref h0]) ++ List.replicate (1 - (lg_sl ([.ref h0])).length) Slot.unset).toArray = ls at hl ⊢
  have hl : lv_has ls 1 [(0, .ref h0)] := hl
  refine lv_aload_n hx hb dX10_gaps_0 rfl (lv_at hl 0 rfl) ?_
  have hPc := hP.sub (ws' := [(h0, .inr (10, [.ref h6, .ref h5, .ref h7, .ref h8, .ref h9, .ref h1, .ref h3, .int 0, .ref h10, .ref h11, .ref h12, .ref h13, .ref h14, .ref h15, .ref h16, .int 0, .int 0, .int 0, .ref h17, .ref h18, .int 0, .int 0, .int 0, .ref h2, .ref h4, .ref h19, .ref h20, .ref h21, .ref h22, .ref h23, .int 0, .ref h24, .int 0, .ref h25])), (h1, .inl (cI, 5, .inl (fun _ => 0))), (h2, .inl (cI, 5, .inl (fun _ => 0))), (h3, .inl (cI, 5, .inl (fun _ => 0))), (h4, .inl (cI, 5, .inl (fun _ => 0)))]) [0, 1, 2, 3, 4] rfl
  have hDc := hD.sub (ws' := [(h0, .inr (10, [.ref h6, .ref h5, .ref h7, .ref h8, .ref h9, .ref h1, .ref h3, .int 0, .ref h10, .ref h11, .ref h12, .ref h13, .ref h14, .ref h15, .ref h16, .int 0, .int 0, .int 0, .ref h17, .ref h18, .int 0, .int 0, .int 0, .ref h2, .ref h4, .ref h19, .ref h20, .ref h21, .ref h22, .ref h23, .int 0, .ref h24, .int 0, .ref h25])), (h1, .inl (cI, 5, .inl (fun _ => 0))), (h2, .inl (cI, 5, .inl (fun _ => 0))), (h3, .inl (cI, 5, .inl (fun _ => 0))), (h4, .inl (cI, 5, .inl (fun _ => 0)))]) [0, 1, 2, 3, 4] (by decide) rfl
  have hFc := va_free (wc := [(h0, .inr (10, [.ref h6, .ref h5, .ref h7, .ref h8, .ref h9, .ref h1, .ref h3, .int 0, .ref h10, .ref h11, .ref h12, .ref h13, .ref h14, .ref h15, .ref h16, .int 0, .int 0, .int 0, .ref h17, .ref h18, .int 0, .int 0, .int 0, .ref h2, .ref h4, .ref h19, .ref h20, .ref h21, .ref h22, .ref h23, .int 0, .ref h24, .int 0, .ref h25])), (h1, .inl (cI, 5, .inl (fun _ => 0))), (h2, .inl (cI, 5, .inl (fun _ => 0))), (h3, .inl (cI, 5, .inl (fun _ => 0))), (h4, .inl (cI, 5, .inl (fun _ => 0)))]) hD hS hA [0, 1, 2, 3, 4] rfl
  refine va_callv (va_runV (As := []) (rest := []) ⟨hx, hb, hml, hown, hts⟩ (k_X10_look l D cC cI cZ h0 h1 h2 h3 h4 h6 h5 h7 h8 h9 h10 h11 h12 h13 h14 h15 h16 h17 h18 h19 h20 h21 h22 h23 h24 h25 s.heap.size ) (cwV (C := RX10) 0 hts (goodIn_app (goodIn_of _ (by decide +kernel)) gc_k_X10_gaps_k_X10_look) rfl rfl rfl (by decide +kernel) ⟨(Nat.le_of_ble_eq_true rfl), (Nat.le_of_ble_eq_true rfl)⟩) (kPreV hK hPc hDc (va_recv hK hPc (ci := 10) (q0 := 0) rfl rfl)) rfl rfl hl.1 rfl (lv_room (Nat.le_of_ble_eq_true rfl)) dX10_gaps_1 ⟨(Nat.le_of_ble_eq_true rfl), (Nat.le_of_ble_eq_true rfl)⟩) hS (fun q _ h => hFc q h) hFc (fun u t H1 locs ht hvm hw hB hz1 hk1 hS => ?_)
  obtain ⟨hP1, hD1⟩ := hB
  rw [ht] at hP1
  obtain ⟨hP, hD⟩ := va_join (wr := [(h5, .inl (cI, 9, .inl (upd (upd (upd (fun _ => 0) (Int32.toNatClampNeg 3) 5) (Int32.toNatClampNeg 4) 9) (Int32.toNatClampNeg 7) 1)))]) (w1 := [(h0, .inr (10, [.ref h6, .ref h5, .ref h7, .ref h8, .ref h9, .ref h1, .ref h3, .int 0, .ref h10, .ref h11, .ref h12, .ref h13, .ref h14, .ref h15, .ref h16, .int 0, .int 0, .int 0, .ref h17, .ref h18, .int 0, .int 0, .int 0, .ref h2, .ref h4, .ref h19, .ref h20, .ref h21, .ref h22, .ref h23, .int 0, .ref h24, .int 0, .ref h25])), (h1, .inl (cI, 5, .inl (fun _ => 0))), (h2, .inl (cI, 5, .inl (fun _ => 0))), (h3, .inl (cI, 5, .inl (fun _ => 0))), (h4, .inl (cI, 5, .inl (fun _ => 0)))]) hP hD [0, 1, 2, 3, 4] [5] rfl rfl (by decide) (by decide) hk1 hFc hP1 hD1
  generalize H1 = H at hP hS ⊢
  have hP : va_P D vwCl [(h5, .inl (cI, 9, .inl (upd (upd (upd (fun _ => 0) (Int32.toNatClampNeg 3) 5) (Int32.toNatClampNeg 4) 9) (Int32.toNatClampNeg 7) 1))), (h0, .inr (10, [.ref h6, .ref h5, .ref h7, .ref h8, .ref h9, .ref h1, .ref h3, .int 0, .ref h10, .ref h11, .ref h12, .ref h13, .ref h14, .ref h15, .ref h16, .int 0, .int 0, .int 0, .ref h17, .ref h18, .int 0, .int 0, .int 0, .ref h2, .ref h4, .ref h19, .ref h20, .ref h21, .ref h22, .ref h23, .int 0, .ref h24, .int 0, .ref h25])), (h1, .inl (cI, 5, .inl (fun _ => 0))), (h2, .inl (cI, 5, .inl (fun _ => 0))), (h3, .inl (cI, 5, .inl (fun _ => 0))), (h4, .inl (cI, 5, .inl (fun _ => 0)))] H := hP
  have hD : va_D A [(h5, .inl (cI, 9, .inl (upd (upd (upd (fun _ => 0) (Int32.toNatClampNeg 3) 5) (Int32.toNatClampNeg 4) 9) (Int32.toNatClampNeg 7) 1))), (h0, .inr (10, [.ref h6, .ref h5, .ref h7, .ref h8, .ref h9, .ref h1, .ref h3, .int 0, .ref h10, .ref h11, .ref h12, .ref h13, .ref h14, .ref h15, .ref h16, .int 0, .int 0, .int 0, .ref h17, .ref h18, .int 0, .int 0, .int 0, .ref h2, .ref h4, .ref h19, .ref h20, .ref h21, .ref h22, .ref h23, .int 0, .ref h24, .int 0, .ref h25])), (h1, .inl (cI, 5, .inl (fun _ => 0))), (h2, .inl (cI, 5, .inl (fun _ => 0))), (h3, .inl (cI, 5, .inl (fun _ => 0))), (h4, .inl (cI, 5, .inl (fun _ => 0)))] := hD
  refine lv_aload_n hx hb dX10_gaps_4 rfl (lv_at hl 0 rfl) ?_
  have hPc := hP.sub (ws' := [(h0, .inr (10, [.ref h6, .ref h5, .ref h7, .ref h8, .ref h9, .ref h1, .ref h3, .int 0, .ref h10, .ref h11, .ref h12, .ref h13, .ref h14, .ref h15, .ref h16, .int 0, .int 0, .int 0, .ref h17, .ref h18, .int 0, .int 0, .int 0, .ref h2, .ref h4, .ref h19, .ref h20, .ref h21, .ref h22, .ref h23, .int 0, .ref h24, .int 0, .ref h25])), (h5, .inl (cI, 9, .inl (upd (upd (upd (fun _ => 0) (Int32.toNatClampNeg 3) 5) (Int32.toNatClampNeg 4) 9) (Int32.toNatClampNeg 7) 1)))]) [1, 0] rfl
  have hDc := hD.sub (ws' := [(h0, .inr (10, [.ref h6, .ref h5, .ref h7, .ref h8, .ref h9, .ref h1, .ref h3, .int 0, .ref h10, .ref h11, .ref h12, .ref h13, .ref h14, .ref h15, .ref h16, .int 0, .int 0, .int 0, .ref h17, .ref h18, .int 0, .int 0, .int 0, .ref h2, .ref h4, .ref h19, .ref h20, .ref h21, .ref h22, .ref h23, .int 0, .ref h24, .int 0, .ref h25])), (h5, .inl (cI, 9, .inl (upd (upd (upd (fun _ => 0) (Int32.toNatClampNeg 3) 5) (Int32.toNatClampNeg 4) 9) (Int32.toNatClampNeg 7) 1)))]) [1, 0] (by decide) rfl
  refine va_calli (va_runV (As := []) (rest := []) ⟨hx, hb, hml, hown, hts⟩ (k_X10_gapsSeen l D cC cI cZ h0 h5 h6 h7 h8 h9 h1 h3 h10 h11 h12 h13 h14 h15 h16 h17 h18 h2 h4 h19 h20 h21 h22 h23 h24 h25 H.size ) (cwV (C := RX10) 0 hts (goodIn_app (goodIn_of _ (by decide +kernel)) gc_k_X10_gaps_k_X10_gapsSeen) rfl rfl rfl (by decide +kernel) ⟨(Nat.le_of_ble_eq_true rfl), (Nat.le_of_ble_eq_true rfl)⟩) (kPreV hK hPc hDc (va_recv hK hPc (ci := 10) (q0 := 0) rfl rfl)) rfl rfl hl.1 rfl (lv_room (Nat.le_of_ble_eq_true rfl)) dX10_gaps_5 ⟨(Nat.le_of_ble_eq_true rfl), (Nat.le_of_ble_eq_true rfl)⟩) hS (fun q _ h => False.elim h) (fun q h => False.elim h) (fun r1 u t H1 locs ht hvm hw hB hz1 hk1 hS => ?_)
  have hP := hP.kept (H1 := H1) (fun k q hk => hk1 q.1 (hP k q hk).lt (fun h => h))
  generalize H1 = H at hP hS ⊢
  have hw : r1 = 0 := hw
  subst hw
  refine W.widen (k := 0) (n := 0) (Nat.le_of_ble_eq_true rfl) (Nat.le_of_ble_eq_true rfl) ?_
  exact W.iret (v := 0) hx hb hr (fun t ht hW => ⟨⟨0, (), rfl, rfl, trivial⟩, hS.F ht⟩) hS.2.2 dX10_gaps_8
def sw_k_X10_many : List Cond := .code yX10_many cX10_many 3 (some .int) :: (([.fieldLink RX10 13 "TopTurnedModel" "told" "[I"] : List Cond) ++ (wsX100 ++ (([] : List Cond))))
theorem gd_k_X10_many : ∀ w ∈ sw_k_X10_many, (w.onTables && w.keeps) = true ∨ ∃ ty, w = .arrayClass ty := List.forall_mem_cons.mpr ⟨good_of_word rfl, List.forall_mem_append.mpr ⟨fun w h => good_of_word (List.all_eq_true.mp (by decide +kernel : (([.fieldLink RX10 13 "TopTurnedModel" "told" "[I"] : List Cond)).all goodWord = true) w h), List.forall_mem_append.mpr ⟨gw_X10, fun _ h => absurd h List.not_mem_nil⟩⟩⟩
theorem iw_k_X10_many_X10 : ∀ w ∈ wsX100, w ∈ sw_k_X10_many := fun _ h => List.mem_cons_of_mem _ (List.mem_append_right _ (List.mem_append_left _ h))
set_option maxHeartbeats 4000000 in
set_option maxRecDepth 100000 in
theorem k_X10_many (l : Launch) (D : va_G) (cC cI cZ : ClassId) (h0 h1 h2 h3 h4 h5 h6 h7 h8 h9 h10 h11 h12 h13 h14 h15 h16 h17 h18 h19 h20 h21 h22 h23 h24 h25 : Nat) (sz : Nat) : Met l yX10_many sw_k_X10_many ({ frames := 2, cells := 0, slots := 0, locals := 100 }) (va_Pc [.ref h0] (kPre D cC cI cZ [(h0, .inr (10, [.ref h2, .ref h1, .ref h3, .ref h4, .ref h5, .ref h6, .ref h7, .int 0, .ref h8, .ref h9, .ref h10, .ref h11, .ref h12, .ref h13, .ref h14, .int 0, .int 0, .int 0, .ref h15, .ref h16, .int 0, .int 0, .int 0, .ref h17, .ref h18, .ref h19, .ref h20, .ref h21, .ref h22, .ref h23, .int 0, .ref h24, .int 0, .ref h25])), (h1, .inl (cI, 9, .inl (upd (upd (upd (fun _ => 0) (Int32.toNatClampNeg 3) 5) (Int32.toNatClampNeg 4) 9) (Int32.toNatClampNeg 7) 1)))] sz)) (va_Qi (fun (r : Int32) (_ : Unit) => r = 1) (fun _ _ => True) (fun _ => False)) 0 0 (fun _ => False) := by
  refine Met.ofW (cc := cX10_many) (maxL := 3) (ret := (some .int)) (by decide) rfl ?_
  intro p e s m args below meth c s₁ B hml hv
  obtain ⟨rfl, hsz, hP, hK, hD0⟩ := hv
  have hx := B.exec
  have hb := B.bytes
  have hr := B.returns
  have hts := atoms_spec (ws := sw_k_X10_many) B.pre
  have hown : s.vm.findClass RX10 = some m.cls := findClass_of_methodNamed B.named
  have hlocks := B.notSynchronized
  subst hsz
  have hD := hD0
  have hS : va_S (fun _ => False) s.heap s.heap [] := va_S.rf
  have hl := lv_entry ([.ref h0]) (n := 3) (Nat.le_of_ble_eq_true rfl)
  rw [lg_entry_eq]
  generalize (lg_sl ([.ref h0]) ++ List.replicate (3 - (lg_sl ([.ref h0])).length) Slot.unset).toArray = ls at hl ⊢
  have hl : lv_has ls 3 [(0, .ref h0)] := hl
  refine lv_iconst (v := 1) hx hb dX10_many_0 (by decide) ?_
  refine lv_istore_n (lv' := [(1, .int 1), (0, .ref h0)]) hx hb dX10_many_1 rfl hl (by decide) rfl (fun ls hl => ?_)
  refine lv_iconst (v := 1) hx hb dX10_many_2 (by decide) ?_
  refine lv_istore_n (lv' := [(2, .int 1), (1, .int 1), (0, .ref h0)]) hx hb dX10_many_3 rfl hl (by decide) rfl (fun ls hl => ?_)
  refine lv_iload_n hx hb dX10_many_4 rfl (lv_at hl 0 rfl) ?_
  refine lv_aload_n hx hb dX10_many_5 rfl (lv_at hl 2 rfl) ?_
  refine va_get (D := D) (ci := 10) (v := .ref h1) (C := RX10) (T := TX10) (N := 34) hx hb hts iw_k_X10_many_X10 hown hK hP 0 rfl rfl 1 (by decide) (hts (.fieldLink RX10 13 "TopTurnedModel" "told" "[I") (by decide +kernel)) (fun _ h9 => h9) rfl dX10_many_6 ?_
  refine lv_iconst (v := 0) hx hb dX10_many_9 (by decide) ?_
  refine va_iald (i := 0) hx hb hK hP 1 1 rfl rfl (vp_in_iff.mpr (by decide)) dX10_many_10 ?_
  refine kt_eq (y := 0) (by decide +kernel) ?_
  refine lv_icmp_gt (tgt := 26) hx hb dX10_many_11 (by decide) (fun _ => ?_) (fun c => absurd (by decide) c)
  refine lv_iload_n hx hb dX10_many_26 rfl (lv_at hl 1 rfl) ?_
  exact W.iret (v := 1) hx hb hr (fun t ht hW => ⟨⟨1, (), rfl, rfl, trivial⟩, hS.F ht⟩) hS.2.2 dX10_many_27
def sw_k_X10_look_ : List Cond := .code yX10_look_ cX10_look_ 8 none :: (([.fieldLink RX10 13 "TopTurnedModel" "told" "[I"] : List Cond) ++ (wsX100 ++ (([] : List Cond))))
theorem gd_k_X10_look_ : ∀ w ∈ sw_k_X10_look_, (w.onTables && w.keeps) = true ∨ ∃ ty, w = .arrayClass ty := List.forall_mem_cons.mpr ⟨good_of_word rfl, List.forall_mem_append.mpr ⟨fun w h => good_of_word (List.all_eq_true.mp (by decide +kernel : (([.fieldLink RX10 13 "TopTurnedModel" "told" "[I"] : List Cond)).all goodWord = true) w h), List.forall_mem_append.mpr ⟨gw_X10, fun _ h => absurd h List.not_mem_nil⟩⟩⟩
theorem iw_k_X10_look__X10 : ∀ w ∈ wsX100, w ∈ sw_k_X10_look_ := fun _ h => List.mem_cons_of_mem _ (List.mem_append_right _ (List.mem_append_left _ h))
set_option maxHeartbeats 4000000 in
set_option maxRecDepth 100000 in
theorem k_X10_look_ (l : Launch) (D : va_G) (cC cI cZ : ClassId) (h0 h1 h2 h3 h4 h5 h6 h7 h8 h9 h10 h11 h12 h13 h14 h15 h16 h17 h18 h19 h20 h21 h22 h23 h24 h25 : Nat) (sz : Nat) : Met l yX10_look_ sw_k_X10_look_ ({ frames := 2, cells := 0, slots := 0, locals := 100 }) (va_Pc [.ref h0, .int 0] (kPre D cC cI cZ [(h0, .inr (10, [.ref h2, .ref h1, .ref h3, .ref h4, .ref h5, .ref h6, .ref h7, .int 0, .ref h8, .ref h9, .ref h10, .ref h11, .ref h12, .ref h13, .ref h14, .int 0, .int 0, .int 0, .ref h15, .ref h16, .int 0, .int 0, .int 0, .ref h17, .ref h18, .ref h19, .ref h20, .ref h21, .ref h22, .ref h23, .int 0, .ref h24, .int 0, .ref h25])), (h1, .inl (cI, 9, .inl (upd (upd (upd (fun _ => 0) (Int32.toNatClampNeg 3) 5) (Int32.toNatClampNeg 4) 9) (Int32.toNatClampNeg 7) 1)))] sz)) (va_Qv (fun (_ : Unit) => True) (fun _ _ => True) (fun _ => False)) 0 0 (fun _ => False) := by
  refine Met.ofW (cc := cX10_look_) (maxL := 8) (ret := none) (by decide) rfl ?_
  intro p e s m args below meth c s₁ B hml hv
  obtain ⟨rfl, hsz, hP, hK, hD0⟩ := hv
  have hx := B.exec
  have hb := B.bytes
  have hr := B.returns
  have hts := atoms_spec (ws := sw_k_X10_look_) B.pre
  have hown : s.vm.findClass RX10 = some m.cls := findClass_of_methodNamed B.named
  have hlocks := B.notSynchronized
  subst hsz
  have hD := hD0
  have hS : va_S (fun _ => False) s.heap s.heap [] := va_S.rf
  have hl := lv_entry ([.ref h0, .int 0]) (n := 8) (Nat.le_of_ble_eq_true rfl)
  rw [lg_entry_eq]
  generalize (lg_sl ([.ref h0, .int 0]) ++ List.replicate (8 - (lg_sl ([.ref h0, .int 0])).length) Slot.unset).toArray = ls at hl ⊢
  have hl : lv_has ls 8 [(0, .ref h0), (1, .int 0)] := hl
  refine lv_aload_n hx hb dX10_look__0 rfl (lv_at hl 0 rfl) ?_
  refine va_get (D := D) (ci := 10) (v := .ref h1) (C := RX10) (T := TX10) (N := 34) hx hb hts iw_k_X10_look__X10 hown hK hP 0 rfl rfl 1 (by decide) (hts (.fieldLink RX10 13 "TopTurnedModel" "told" "[I") (by decide +kernel)) (fun _ h9 => h9) rfl dX10_look__1 ?_
  refine lv_iconst (v := 0) hx hb dX10_look__4 (by decide) ?_
  refine va_iald (i := 0) hx hb hK hP 1 1 rfl rfl (vp_in_iff.mpr (by decide)) dX10_look__5 ?_
  refine kt_eq (y := 0) (by decide +kernel) ?_
  refine lv_istore_n (lv' := [(2, .int 0), (0, .ref h0), (1, .int 0)]) hx hb dX10_look__6 rfl hl (by decide) rfl (fun ls hl => ?_)
  refine lv_iload_n hx hb dX10_look__7 rfl (lv_at hl 2 rfl) ?_
  refine lv_istore_n (lv' := [(3, .int 0), (2, .int 0), (0, .ref h0), (1, .int 0)]) hx hb dX10_look__8 rfl hl (by decide) rfl (fun ls hl => ?_)
  refine lv_iload_n hx hb dX10_look__9 rfl (lv_at hl 1 rfl) ?_
  refine lv_iconst (v := 1) hx hb dX10_look__10 (by decide) ?_
  refine lv_isub hx hb dX10_look__11 ?_
  refine kt_eq (y := (-1)) (by decide +kernel) ?_
  refine lv_istore (lv' := [(4, .int (-1)), (3, .int 0), (2, .int 0), (0, .ref h0), (1, .int 0)]) hx hb dX10_look__12 hl (by decide) rfl (fun ls hl => ?_)
  refine lv_iload hx hb dX10_look__14 (lv_at hl 0 rfl) ?_
  refine lv_if_lt (tgt := 39) hx hb dX10_look__16 (by decide) (fun _ => ?_) (fun c => absurd (by decide) c)
  refine lv_iload_n hx hb dX10_look__39 rfl (lv_at hl 2 rfl) ?_
  refine lv_iconst (v := 1) hx hb dX10_look__40 (by decide) ?_
  refine lv_isub hx hb dX10_look__41 ?_
  refine kt_eq (y := (-1)) (by decide +kernel) ?_
  refine lv_istore (lv' := [(4, .int (-1)), (3, .int 0), (2, .int 0), (0, .ref h0), (1, .int 0)]) hx hb dX10_look__42 hl (by decide) rfl (fun ls hl => ?_)
  refine lv_iload hx hb dX10_look__44 (lv_at hl 0 rfl) ?_
  refine lv_if_lt (tgt := 75) hx hb dX10_look__46 (by decide) (fun _ => ?_) (fun c => absurd (by decide) c)
  refine lv_iconst (v := 0) hx hb dX10_look__75 (by decide) ?_
  refine lv_istore (lv' := [(4, .int 0), (3, .int 0), (2, .int 0), (0, .ref h0), (1, .int 0)]) hx hb dX10_look__76 hl (by decide) rfl (fun ls hl => ?_)
  refine lv_iconst (v := 0) hx hb dX10_look__78 (by decide) ?_
  refine lv_istore (lv' := [(5, .int 0), (4, .int 0), (3, .int 0), (2, .int 0), (0, .ref h0), (1, .int 0)]) hx hb dX10_look__79 hl (by decide) rfl (fun ls hl => ?_)
  refine lv_iload hx hb dX10_look__81 (lv_at hl 0 rfl) ?_
  refine lv_iload_n hx hb dX10_look__83 rfl (lv_at hl 3 rfl) ?_
  refine lv_icmp_ge (tgt := 166) hx hb dX10_look__84 (by decide) (fun _ => ?_) (fun c => absurd (by decide) c)
  exact W.vret hx hb hr (fun t ht hW => ⟨⟨(), rfl, trivial, trivial⟩, hS.F ht⟩) hS.2.2 dX10_look__166
def sw_k_X10_enter : List Cond := .code yX10_enter cX10_enter 2 none :: (([.fieldLink RX10 68 "TopTurnedModel" "far" "[I", .fieldLink RX10 71 "TopTurnedModel" "ways" "[I", .fieldLink RX10 77 "TopTurnedModel" "line" "[I", .fieldLink RX10 181 "TopTurnedModel" "lined" "I"] : List Cond) ++ (wsX100 ++ (([] : List Cond))))
theorem gd_k_X10_enter : ∀ w ∈ sw_k_X10_enter, (w.onTables && w.keeps) = true ∨ ∃ ty, w = .arrayClass ty := List.forall_mem_cons.mpr ⟨good_of_word rfl, List.forall_mem_append.mpr ⟨fun w h => good_of_word (List.all_eq_true.mp (by decide +kernel : (([.fieldLink RX10 68 "TopTurnedModel" "far" "[I", .fieldLink RX10 71 "TopTurnedModel" "ways" "[I", .fieldLink RX10 77 "TopTurnedModel" "line" "[I", .fieldLink RX10 181 "TopTurnedModel" "lined" "I"] : List Cond)).all goodWord = true) w h), List.forall_mem_append.mpr ⟨gw_X10, fun _ h => absurd h List.not_mem_nil⟩⟩⟩
theorem iw_k_X10_enter_X10 : ∀ w ∈ wsX100, w ∈ sw_k_X10_enter := fun _ h => List.mem_cons_of_mem _ (List.mem_append_right _ (List.mem_append_left _ h))
set_option maxHeartbeats 4000000 in
set_option maxRecDepth 100000 in
theorem k_X10_enter (l : Launch) (D : va_G) (cC cI cZ : ClassId) (h0 h1 h2 h3 h4 h5 h6 h7 h8 h9 h10 h11 h12 h13 h14 h15 h16 h17 h18 h19 h20 h21 h22 h23 h24 h25 : Nat) (sz : Nat) : Met l yX10_enter sw_k_X10_enter ({ frames := 2, cells := 0, slots := 0, locals := 100 }) (va_Pc [.ref h0, .int 0] (kPre D cC cI cZ [(h0, .inr (10, [.ref h4, .ref h5, .ref h6, .ref h7, .ref h8, .ref h9, .ref h10, .int 0, .ref h11, .ref h12, .ref h13, .ref h14, .ref h15, .ref h16, .ref h17, .int 0, .int 0, .int 0, .ref h18, .ref h19, .int 0, .int 0, .int 0, .ref h20, .ref h21, .ref h22, .ref h1, .ref h2, .ref h23, .ref h3, .int 0, .ref h24, .int 0, .ref h25])), (h1, .inl (cI, 3840, .inl (upd (fun _ => 0) (Int32.toNatClampNeg 0) (-1)))), (h2, .inl (cI, 3840, .inl (fun _ => 0))), (h3, .inl (cI, 3840, .inl (fun _ => 0)))] sz)) (va_Qv (fun (_ : Unit) => True) (fun _ t => va_P D vwCl [(h0, .inr (10, [.ref h4, .ref h5, .ref h6, .ref h7, .ref h8, .ref h9, .ref h10, .int 0, .ref h11, .ref h12, .ref h13, .ref h14, .ref h15, .ref h16, .ref h17, .int 0, .int 0, .int 0, .ref h18, .ref h19, .int 0, .int 0, .int 0, .ref h20, .ref h21, .ref h22, .ref h1, .ref h2, .ref h23, .ref h3, .int 1, .ref h24, .int 0, .ref h25])), (h1, .inl (cI, 3840, .inl (upd (upd (fun _ => 0) (Int32.toNatClampNeg 0) (-1)) (Int32.toNatClampNeg 0) 0))), (h2, .inl (cI, 3840, .inl (upd (fun _ => 0) (Int32.toNatClampNeg 0) 1))), (h3, .inl (cI, 3840, .inl (fun _ => 0)))] t.heap ∧ va_D (va_A [(h0, .inr (10, [.ref h4, .ref h5, .ref h6, .ref h7, .ref h8, .ref h9, .ref h10, .int 0, .ref h11, .ref h12, .ref h13, .ref h14, .ref h15, .ref h16, .ref h17, .int 0, .int 0, .int 0, .ref h18, .ref h19, .int 0, .int 0, .int 0, .ref h20, .ref h21, .ref h22, .ref h1, .ref h2, .ref h23, .ref h3, .int 0, .ref h24, .int 0, .ref h25])), (h1, .inl (cI, 3840, .inl (upd (fun _ => 0) (Int32.toNatClampNeg 0) (-1)))), (h2, .inl (cI, 3840, .inl (fun _ => 0))), (h3, .inl (cI, 3840, .inl (fun _ => 0)))] sz) [(h0, .inr (10, [.ref h4, .ref h5, .ref h6, .ref h7, .ref h8, .ref h9, .ref h10, .int 0, .ref h11, .ref h12, .ref h13, .ref h14, .ref h15, .ref h16, .ref h17, .int 0, .int 0, .int 0, .ref h18, .ref h19, .int 0, .int 0, .int 0, .ref h20, .ref h21, .ref h22, .ref h1, .ref h2, .ref h23, .ref h3, .int 1, .ref h24, .int 0, .ref h25])), (h1, .inl (cI, 3840, .inl (upd (upd (fun _ => 0) (Int32.toNatClampNeg 0) (-1)) (Int32.toNatClampNeg 0) 0))), (h2, .inl (cI, 3840, .inl (upd (fun _ => 0) (Int32.toNatClampNeg 0) 1))), (h3, .inl (cI, 3840, .inl (fun _ => 0)))]) (va_A [(h0, .inr (10, [.ref h4, .ref h5, .ref h6, .ref h7, .ref h8, .ref h9, .ref h10, .int 0, .ref h11, .ref h12, .ref h13, .ref h14, .ref h15, .ref h16, .ref h17, .int 0, .int 0, .int 0, .ref h18, .ref h19, .int 0, .int 0, .int 0, .ref h20, .ref h21, .ref h22, .ref h1, .ref h2, .ref h23, .ref h3, .int 0, .ref h24, .int 0, .ref h25])), (h1, .inl (cI, 3840, .inl (upd (fun _ => 0) (Int32.toNatClampNeg 0) (-1)))), (h2, .inl (cI, 3840, .inl (fun _ => 0))), (h3, .inl (cI, 3840, .inl (fun _ => 0)))] sz)) 0 0 (va_A [(h0, .inr (10, [.ref h4, .ref h5, .ref h6, .ref h7, .ref h8, .ref h9, .ref h10, .int 0, .ref h11, .ref h12, .ref h13, .ref h14, .ref h15, .ref h16, .ref h17, .int 0, .int 0, .int 0, .ref h18, .ref h19, .int 0, .int 0, .int 0, .ref h20, .ref h21, .ref h22, .ref h1, .ref h2, .ref h23, .ref h3, .int 0, .ref h24, .int 0, .ref h25])), (h1, .inl (cI, 3840, .inl (upd (fun _ => 0) (Int32.toNatClampNeg 0) (-1)))), (h2, .inl (cI, 3840, .inl (fun _ => 0))), (h3, .inl (cI, 3840, .inl (fun _ => 0)))] sz) := by
  refine Met.ofW (cc := cX10_enter) (maxL := 2) (ret := none) (by decide) rfl ?_
  intro p e s m args below meth c s₁ B hml hv
  obtain ⟨rfl, hsz, hP, hK, hD0⟩ := hv
  have hx := B.exec
  have hb := B.bytes
  have hr := B.returns
  have hts := atoms_spec (ws := sw_k_X10_enter) B.pre
  have hown : s.vm.findClass RX10 = some m.cls := findClass_of_methodNamed B.named
  have hlocks := B.notSynchronized
  subst hsz
  have hD := hD0.self (sz := s.heap.size)
  generalize hAe : va_A [(h0, .inr (10, [.ref h4, .ref h5, .ref h6, .ref h7, .ref h8, .ref h9, .ref h10, .int 0, .ref h11, .ref h12, .ref h13, .ref h14, .ref h15, .ref h16, .ref h17, .int 0, .int 0, .int 0, .ref h18, .ref h19, .int 0, .int 0, .int 0, .ref h20, .ref h21, .ref h22, .ref h1, .ref h2, .ref h23, .ref h3, .int 0, .ref h24, .int 0, .ref h25])), (h1, .inl (cI, 3840, .inl (upd (fun _ => 0) (Int32.toNatClampNeg 0) (-1)))), (h2, .inl (cI, 3840, .inl (fun _ => 0))), (h3, .inl (cI, 3840, .inl (fun _ => 0)))] s.heap.size = A at hD ⊢
  have hA : ∀ q : Nat, s.heap.size ≤ q → A q := fun q h => by rw [← hAe]; exact Or.inr h
  have hS : va_S A s.heap s.heap [] := va_S.rf
  have hl := lv_entry ([.ref h0, .int 0]) (n := 2) (Nat.le_of_ble_eq_true rfl)
  rw [lg_entry_eq]
  generalize (lg_sl ([.ref h0, .int 0]) ++ List.replicate (2 - (lg_sl ([.ref h0, .int 0])).length) Slot.unset).toArray = ls at hl ⊢
  have hl : lv_has ls 2 [(0, .ref h0), (1, .int 0)] := hl
  refine lv_aload_n hx hb dX10_enter_0 rfl (lv_at hl 0 rfl) ?_
  refine va_get (D := D) (ci := 10) (v := .ref h1) (C := RX10) (T := TX10) (N := 34) hx hb hts iw_k_X10_enter_X10 hown hK hP 0 rfl rfl 26 (by decide) (hts (.fieldLink RX10 68 "TopTurnedModel" "far" "[I") (by decide +kernel)) (fun _ h9 => h9) rfl dX10_enter_1 ?_
  refine lv_iload_n hx hb dX10_enter_4 rfl (lv_at hl 1 rfl) ?_
  refine lv_iconst (v := 0) hx hb dX10_enter_5 (by decide) ?_
  refine va_iast (i := 0) (x := 0) hx hb hK hP hD hS 1 1 rfl rfl (vp_in_iff.mpr (by decide)) dX10_enter_6 (fun H locs hP hD hS => ?_)
  have hP : va_P D vwCl [(h0, .inr (10, [.ref h4, .ref h5, .ref h6, .ref h7, .ref h8, .ref h9, .ref h10, .int 0, .ref h11, .ref h12, .ref h13, .ref h14, .ref h15, .ref h16, .ref h17, .int 0, .int 0, .int 0, .ref h18, .ref h19, .int 0, .int 0, .int 0, .ref h20, .ref h21, .ref h22, .ref h1, .ref h2, .ref h23, .ref h3, .int 0, .ref h24, .int 0, .ref h25])), (h1, .inl (cI, 3840, .inl (upd (upd (fun _ => 0) (Int32.toNatClampNeg 0) (-1)) (Int32.toNatClampNeg 0) 0))), (h2, .inl (cI, 3840, .inl (fun _ => 0))), (h3, .inl (cI, 3840, .inl (fun _ => 0)))] H := hP
  have hD : va_D A [(h0, .inr (10, [.ref h4, .ref h5, .ref h6, .ref h7, .ref h8, .ref h9, .ref h10, .int 0, .ref h11, .ref h12, .ref h13, .ref h14, .ref h15, .ref h16, .ref h17, .int 0, .int 0, .int 0, .ref h18, .ref h19, .int 0, .int 0, .int 0, .ref h20, .ref h21, .ref h22, .ref h1, .ref h2, .ref h23, .ref h3, .int 0, .ref h24, .int 0, .ref h25])), (h1, .inl (cI, 3840, .inl (upd (upd (fun _ => 0) (Int32.toNatClampNeg 0) (-1)) (Int32.toNatClampNeg 0) 0))), (h2, .inl (cI, 3840, .inl (fun _ => 0))), (h3, .inl (cI, 3840, .inl (fun _ => 0)))] := hD
  refine lv_aload_n hx hb dX10_enter_7 rfl (lv_at hl 0 rfl) ?_
  refine va_get (D := D) (ci := 10) (v := .ref h2) (C := RX10) (T := TX10) (N := 34) hx hb hts iw_k_X10_enter_X10 hown hK hP 0 rfl rfl 27 (by decide) (hts (.fieldLink RX10 71 "TopTurnedModel" "ways" "[I") (by decide +kernel)) (fun _ h9 => h9) rfl dX10_enter_8 ?_
  refine lv_iload_n hx hb dX10_enter_11 rfl (lv_at hl 1 rfl) ?_
  refine lv_iconst (v := 1) hx hb dX10_enter_12 (by decide) ?_
  refine va_iast (i := 0) (x := 1) hx hb hK hP hD hS 2 1 rfl rfl (vp_in_iff.mpr (by decide)) dX10_enter_13 (fun H locs hP hD hS => ?_)
  have hP : va_P D vwCl [(h0, .inr (10, [.ref h4, .ref h5, .ref h6, .ref h7, .ref h8, .ref h9, .ref h10, .int 0, .ref h11, .ref h12, .ref h13, .ref h14, .ref h15, .ref h16, .ref h17, .int 0, .int 0, .int 0, .ref h18, .ref h19, .int 0, .int 0, .int 0, .ref h20, .ref h21, .ref h22, .ref h1, .ref h2, .ref h23, .ref h3, .int 0, .ref h24, .int 0, .ref h25])), (h1, .inl (cI, 3840, .inl (upd (upd (fun _ => 0) (Int32.toNatClampNeg 0) (-1)) (Int32.toNatClampNeg 0) 0))), (h2, .inl (cI, 3840, .inl (upd (fun _ => 0) (Int32.toNatClampNeg 0) 1))), (h3, .inl (cI, 3840, .inl (fun _ => 0)))] H := hP
  have hD : va_D A [(h0, .inr (10, [.ref h4, .ref h5, .ref h6, .ref h7, .ref h8, .ref h9, .ref h10, .int 0, .ref h11, .ref h12, .ref h13, .ref h14, .ref h15, .ref h16, .ref h17, .int 0, .int 0, .int 0, .ref h18, .ref h19, .int 0, .int 0, .int 0, .ref h20, .ref h21, .ref h22, .ref h1, .ref h2, .ref h23, .ref h3, .int 0, .ref h24, .int 0, .ref h25])), (h1, .inl (cI, 3840, .inl (upd (upd (fun _ => 0) (Int32.toNatClampNeg 0) (-1)) (Int32.toNatClampNeg 0) 0))), (h2, .inl (cI, 3840, .inl (upd (fun _ => 0) (Int32.toNatClampNeg 0) 1))), (h3, .inl (cI, 3840, .inl (fun _ => 0)))] := hD
  refine lv_aload_n hx hb dX10_enter_14 rfl (lv_at hl 0 rfl) ?_
  refine va_get (D := D) (ci := 10) (v := .ref h3) (C := RX10) (T := TX10) (N := 34) hx hb hts iw_k_X10_enter_X10 hown hK hP 0 rfl rfl 29 (by decide) (hts (.fieldLink RX10 77 "TopTurnedModel" "line" "[I") (by decide +kernel)) (fun _ h9 => h9) rfl dX10_enter_15 ?_
  refine lv_aload_n hx hb dX10_enter_18 rfl (lv_at hl 0 rfl) ?_
  refine va_get (D := D) (ci := 10) (v := .int 0) (C := RX10) (T := TX10) (N := 34) hx hb hts iw_k_X10_enter_X10 hown hK hP 0 rfl rfl 30 (by decide) (hts (.fieldLink RX10 181 "TopTurnedModel" "lined" "I") (by decide +kernel)) (fun _ h9 => h9) rfl dX10_enter_19 ?_
  refine lv_iload_n hx hb dX10_enter_22 rfl (lv_at hl 1 rfl) ?_
  refine kn_iastS (i := 0) (x := 0) hx hb hK hP hD hS 3 1 rfl rfl (vp_in_iff.mpr (by decide)) (by decide +kernel) dX10_enter_23 (fun H locs hP hD hS => ?_)
  refine lv_aload_n hx hb dX10_enter_24 rfl (lv_at hl 0 rfl) ?_
  refine lv_dup hx hb dX10_enter_25 rfl ?_
  refine va_get (D := D) (ci := 10) (v := .int 0) (C := RX10) (T := TX10) (N := 34) hx hb hts iw_k_X10_enter_X10 hown hK hP 0 rfl rfl 30 (by decide) (hts (.fieldLink RX10 181 "TopTurnedModel" "lined" "I") (by decide +kernel)) (fun _ h9 => h9) rfl dX10_enter_26 ?_
  refine lv_iconst (v := 1) hx hb dX10_enter_29 (by decide) ?_
  refine lv_iadd hx hb dX10_enter_30 ?_
  refine kt_eq (y := 1) (by decide +kernel) ?_
  refine va_put (D := D) (ci := 10) (v := .int 1) (ty := .int) (C := RX10) (T := TX10) (N := 34) hx hb hts iw_k_X10_enter_X10 tyX10 tyX10_ok nmX10 hown hK hP hD hS 0 rfl rfl 30 (by decide) (hts (.fieldLink RX10 181 "TopTurnedModel" "lined" "I") (by decide +kernel)) (fun _ h9 => h9) rfl (by decide +kernel) rfl rfl (Nat.le_of_ble_eq_true rfl) dX10_enter_31 (fun H locs hP hD hS => ?_)
  have hP : va_P D vwCl [(h0, .inr (10, [.ref h4, .ref h5, .ref h6, .ref h7, .ref h8, .ref h9, .ref h10, .int 0, .ref h11, .ref h12, .ref h13, .ref h14, .ref h15, .ref h16, .ref h17, .int 0, .int 0, .int 0, .ref h18, .ref h19, .int 0, .int 0, .int 0, .ref h20, .ref h21, .ref h22, .ref h1, .ref h2, .ref h23, .ref h3, .int 1, .ref h24, .int 0, .ref h25])), (h1, .inl (cI, 3840, .inl (upd (upd (fun _ => 0) (Int32.toNatClampNeg 0) (-1)) (Int32.toNatClampNeg 0) 0))), (h2, .inl (cI, 3840, .inl (upd (fun _ => 0) (Int32.toNatClampNeg 0) 1))), (h3, .inl (cI, 3840, .inl (fun _ => 0)))] H := hP
  have hD : va_D A [(h0, .inr (10, [.ref h4, .ref h5, .ref h6, .ref h7, .ref h8, .ref h9, .ref h10, .int 0, .ref h11, .ref h12, .ref h13, .ref h14, .ref h15, .ref h16, .ref h17, .int 0, .int 0, .int 0, .ref h18, .ref h19, .int 0, .int 0, .int 0, .ref h20, .ref h21, .ref h22, .ref h1, .ref h2, .ref h23, .ref h3, .int 1, .ref h24, .int 0, .ref h25])), (h1, .inl (cI, 3840, .inl (upd (upd (fun _ => 0) (Int32.toNatClampNeg 0) (-1)) (Int32.toNatClampNeg 0) 0))), (h2, .inl (cI, 3840, .inl (upd (fun _ => 0) (Int32.toNatClampNeg 0) 1))), (h3, .inl (cI, 3840, .inl (fun _ => 0)))] := hD
  refine W.widen (k := 0) (n := 0) (Nat.le_of_ble_eq_true rfl) (Nat.le_of_ble_eq_true rfl) ?_
  have hP9 := hP.sub (ws' := [(h0, .inr (10, [.ref h4, .ref h5, .ref h6, .ref h7, .ref h8, .ref h9, .ref h10, .int 0, .ref h11, .ref h12, .ref h13, .ref h14, .ref h15, .ref h16, .ref h17, .int 0, .int 0, .int 0, .ref h18, .ref h19, .int 0, .int 0, .int 0, .ref h20, .ref h21, .ref h22, .ref h1, .ref h2, .ref h23, .ref h3, .int 1, .ref h24, .int 0, .ref h25])), (h1, .inl (cI, 3840, .inl (upd (upd (fun _ => 0) (Int32.toNatClampNeg 0) (-1)) (Int32.toNatClampNeg 0) 0))), (h2, .inl (cI, 3840, .inl (upd (fun _ => 0) (Int32.toNatClampNeg 0) 1))), (h3, .inl (cI, 3840, .inl (fun _ => 0)))]) [0, 1, 2, 3] rfl
  have hD9 := hD.sub (ws' := [(h0, .inr (10, [.ref h4, .ref h5, .ref h6, .ref h7, .ref h8, .ref h9, .ref h10, .int 0, .ref h11, .ref h12, .ref h13, .ref h14, .ref h15, .ref h16, .ref h17, .int 0, .int 0, .int 0, .ref h18, .ref h19, .int 0, .int 0, .int 0, .ref h20, .ref h21, .ref h22, .ref h1, .ref h2, .ref h23, .ref h3, .int 1, .ref h24, .int 0, .ref h25])), (h1, .inl (cI, 3840, .inl (upd (upd (fun _ => 0) (Int32.toNatClampNeg 0) (-1)) (Int32.toNatClampNeg 0) 0))), (h2, .inl (cI, 3840, .inl (upd (fun _ => 0) (Int32.toNatClampNeg 0) 1))), (h3, .inl (cI, 3840, .inl (fun _ => 0)))]) [0, 1, 2, 3] (by decide) rfl
  exact W.vret hx hb hr (fun t ht hW => ⟨⟨(), rfl, trivial, ⟨by rw [ht]; exact hP9, hD9⟩⟩, hS.F ht⟩) hS.2.2 dX10_enter_34
def sw_k_X10_many_1 : List Cond := .code yX10_many cX10_many 3 (some .int) :: (([.fieldLink RX10 13 "TopTurnedModel" "told" "[I"] : List Cond) ++ (wsX100 ++ (([] : List Cond))))
theorem gd_k_X10_many_1 : ∀ w ∈ sw_k_X10_many_1, (w.onTables && w.keeps) = true ∨ ∃ ty, w = .arrayClass ty := List.forall_mem_cons.mpr ⟨good_of_word rfl, List.forall_mem_append.mpr ⟨fun w h => good_of_word (List.all_eq_true.mp (by decide +kernel : (([.fieldLink RX10 13 "TopTurnedModel" "told" "[I"] : List Cond)).all goodWord = true) w h), List.forall_mem_append.mpr ⟨gw_X10, fun _ h => absurd h List.not_mem_nil⟩⟩⟩
theorem iw_k_X10_many_1_X10 : ∀ w ∈ wsX100, w ∈ sw_k_X10_many_1 := fun _ h => List.mem_cons_of_mem _ (List.mem_append_right _ (List.mem_append_left _ h))
set_option maxHeartbeats 4000000 in
set_option maxRecDepth 100000 in
theorem k_X10_many_1 (l : Launch) (D : va_G) (cC cI cZ : ClassId) (h0 h1 h2 h3 h4 h5 h6 h7 h8 h9 h10 h11 h12 h13 h14 h15 h16 h17 h18 h19 h20 h21 h22 h23 h24 h25 : Nat) (sz : Nat) : Met l yX10_many sw_k_X10_many_1 ({ frames := 2, cells := 0, slots := 0, locals := 100 }) (va_Pc [.ref h0] (kPre D cC cI cZ [(h0, .inr (10, [.ref h2, .ref h1, .ref h3, .ref h4, .ref h5, .ref h6, .ref h7, .int 0, .ref h8, .ref h9, .ref h10, .ref h11, .ref h12, .ref h13, .ref h14, .int 0, .int 0, .int 0, .ref h15, .ref h16, .int 0, .int 0, .int 0, .ref h17, .ref h18, .ref h19, .ref h20, .ref h21, .ref h22, .ref h23, .int 1, .ref h24, .int 0, .ref h25])), (h1, .inl (cI, 9, .inl (upd (upd (upd (fun _ => 0) (Int32.toNatClampNeg 3) 5) (Int32.toNatClampNeg 4) 9) (Int32.toNatClampNeg 7) 1)))] sz)) (va_Qi (fun (r : Int32) (_ : Unit) => r = 1) (fun _ _ => True) (fun _ => False)) 0 0 (fun _ => False) := by
  refine Met.ofW (cc := cX10_many) (maxL := 3) (ret := (some .int)) (by decide) rfl ?_
  intro p e s m args below meth c s₁ B hml hv
  obtain ⟨rfl, hsz, hP, hK, hD0⟩ := hv
  have hx := B.exec
  have hb := B.bytes
  have hr := B.returns
  have hts := atoms_spec (ws := sw_k_X10_many_1) B.pre
  have hown : s.vm.findClass RX10 = some m.cls := findClass_of_methodNamed B.named
  have hlocks := B.notSynchronized
  subst hsz
  have hD := hD0
  have hS : va_S (fun _ => False) s.heap s.heap [] := va_S.rf
  have hl := lv_entry ([.ref h0]) (n := 3) (Nat.le_of_ble_eq_true rfl)
  rw [lg_entry_eq]
  generalize (lg_sl ([.ref h0]) ++ List.replicate (3 - (lg_sl ([.ref h0])).length) Slot.unset).toArray = ls at hl ⊢
  have hl : lv_has ls 3 [(0, .ref h0)] := hl
  refine lv_iconst (v := 1) hx hb dX10_many_0 (by decide) ?_
  refine lv_istore_n (lv' := [(1, .int 1), (0, .ref h0)]) hx hb dX10_many_1 rfl hl (by decide) rfl (fun ls hl => ?_)
  refine lv_iconst (v := 1) hx hb dX10_many_2 (by decide) ?_
  refine lv_istore_n (lv' := [(2, .int 1), (1, .int 1), (0, .ref h0)]) hx hb dX10_many_3 rfl hl (by decide) rfl (fun ls hl => ?_)
  refine lv_iload_n hx hb dX10_many_4 rfl (lv_at hl 0 rfl) ?_
  refine lv_aload_n hx hb dX10_many_5 rfl (lv_at hl 2 rfl) ?_
  refine va_get (D := D) (ci := 10) (v := .ref h1) (C := RX10) (T := TX10) (N := 34) hx hb hts iw_k_X10_many_1_X10 hown hK hP 0 rfl rfl 1 (by decide) (hts (.fieldLink RX10 13 "TopTurnedModel" "told" "[I") (by decide +kernel)) (fun _ h9 => h9) rfl dX10_many_6 ?_
  refine lv_iconst (v := 0) hx hb dX10_many_9 (by decide) ?_
  refine va_iald (i := 0) hx hb hK hP 1 1 rfl rfl (vp_in_iff.mpr (by decide)) dX10_many_10 ?_
  refine kt_eq (y := 0) (by decide +kernel) ?_
  refine lv_icmp_gt (tgt := 26) hx hb dX10_many_11 (by decide) (fun _ => ?_) (fun c => absurd (by decide) c)
  refine lv_iload_n hx hb dX10_many_26 rfl (lv_at hl 1 rfl) ?_
  exact W.iret (v := 1) hx hb hr (fun t ht hW => ⟨⟨1, (), rfl, rfl, trivial⟩, hS.F ht⟩) hS.2.2 dX10_many_27
def sw_k_X10_goOut : List Cond := .code yX10_goOut cX10_goOut 7 none :: (([.fieldLink RX10 13 "TopTurnedModel" "told" "[I", .fieldLink RX10 181 "TopTurnedModel" "lined" "I", .fieldLink RX10 77 "TopTurnedModel" "line" "[I"] : List Cond) ++ (wsX100 ++ (([] : List Cond))))
theorem gd_k_X10_goOut : ∀ w ∈ sw_k_X10_goOut, (w.onTables && w.keeps) = true ∨ ∃ ty, w = .arrayClass ty := List.forall_mem_cons.mpr ⟨good_of_word rfl, List.forall_mem_append.mpr ⟨fun w h => good_of_word (List.all_eq_true.mp (by decide +kernel : (([.fieldLink RX10 13 "TopTurnedModel" "told" "[I", .fieldLink RX10 181 "TopTurnedModel" "lined" "I", .fieldLink RX10 77 "TopTurnedModel" "line" "[I"] : List Cond)).all goodWord = true) w h), List.forall_mem_append.mpr ⟨gw_X10, fun _ h => absurd h List.not_mem_nil⟩⟩⟩
theorem iw_k_X10_goOut_X10 : ∀ w ∈ wsX100, w ∈ sw_k_X10_goOut := fun _ h => List.mem_cons_of_mem _ (List.mem_append_right _ (List.mem_append_left _ h))
set_option maxHeartbeats 4000000 in
set_option maxRecDepth 100000 in
theorem k_X10_goOut (l : Launch) (D : va_G) (cC cI cZ : ClassId) (h0 h1 h2 h3 h4 h5 h6 h7 h8 h9 h10 h11 h12 h13 h14 h15 h16 h17 h18 h19 h20 h21 h22 h23 h24 h25 : Nat) (sz : Nat) : Met l yX10_goOut sw_k_X10_goOut ({ frames := 2, cells := 0, slots := 0, locals := 100 }) (va_Pc [.ref h0] (kPre D cC cI cZ [(h0, .inr (10, [.ref h3, .ref h1, .ref h4, .ref h5, .ref h6, .ref h7, .ref h8, .int 0, .ref h9, .ref h10, .ref h11, .ref h12, .ref h13, .ref h14, .ref h15, .int 0, .int 0, .int 0, .ref h16, .ref h17, .int 0, .int 0, .int 0, .ref h18, .ref h19, .ref h20, .ref h21, .ref h22, .ref h23, .ref h2, .int 1, .ref h24, .int 0, .ref h25])), (h1, .inl (cI, 9, .inl (upd (upd (upd (fun _ => 0) (Int32.toNatClampNeg 3) 5) (Int32.toNatClampNeg 4) 9) (Int32.toNatClampNeg 7) 1))), (h2, .inl (cI, 3840, .inl (fun _ => 0)))] sz)) (va_Qv (fun (_ : Unit) => True) (fun _ _ => True) (fun _ => False)) 0 0 (fun _ => False) := by
  refine Met.ofW (cc := cX10_goOut) (maxL := 7) (ret := none) (by decide) rfl ?_
  intro p e s m args below meth c s₁ B hml hv
  obtain ⟨rfl, hsz, hP, hK, hD0⟩ := hv
  have hx := B.exec
  have hb := B.bytes
  have hr := B.returns
  have hts := atoms_spec (ws := sw_k_X10_goOut) B.pre
  have hown : s.vm.findClass RX10 = some m.cls := findClass_of_methodNamed B.named
  have hlocks := B.notSynchronized
  subst hsz
  have hD := hD0
  have hS : va_S (fun _ => False) s.heap s.heap [] := va_S.rf
  have hl := lv_entry ([.ref h0]) (n := 7) (Nat.le_of_ble_eq_true rfl)
  rw [lg_entry_eq]
  generalize (lg_sl ([.ref h0]) ++ List.replicate (7 - (lg_sl ([.ref h0])).length) Slot.unset).toArray = ls at hl ⊢
  have hl : lv_has ls 7 [(0, .ref h0)] := hl
  refine lv_aload_n hx hb dX10_goOut_0 rfl (lv_at hl 0 rfl) ?_
  refine va_get (D := D) (ci := 10) (v := .ref h1) (C := RX10) (T := TX10) (N := 34) hx hb hts iw_k_X10_goOut_X10 hown hK hP 0 rfl rfl 1 (by decide) (hts (.fieldLink RX10 13 "TopTurnedModel" "told" "[I") (by decide +kernel)) (fun _ h9 => h9) rfl dX10_goOut_1 ?_
  refine lv_iconst (v := 0) hx hb dX10_goOut_4 (by decide) ?_
  refine va_iald (i := 0) hx hb hK hP 1 1 rfl rfl (vp_in_iff.mpr (by decide)) dX10_goOut_5 ?_
  refine kt_eq (y := 0) (by decide +kernel) ?_
  refine lv_istore_n (lv' := [(1, .int 0), (0, .ref h0)]) hx hb dX10_goOut_6 rfl hl (by decide) rfl (fun ls hl => ?_)
  refine lv_iconst (v := 0) hx hb dX10_goOut_7 (by decide) ?_
  refine lv_istore_n (lv' := [(2, .int 0), (1, .int 0), (0, .ref h0)]) hx hb dX10_goOut_8 rfl hl (by decide) rfl (fun ls hl => ?_)
  refine lv_iload_n hx hb dX10_goOut_9 rfl (lv_at hl 0 rfl) ?_
  refine lv_aload_n hx hb dX10_goOut_10 rfl (lv_at hl 2 rfl) ?_
  refine va_get (D := D) (ci := 10) (v := .int 1) (C := RX10) (T := TX10) (N := 34) hx hb hts iw_k_X10_goOut_X10 hown hK hP 0 rfl rfl 30 (by decide) (hts (.fieldLink RX10 181 "TopTurnedModel" "lined" "I") (by decide +kernel)) (fun _ h9 => h9) rfl dX10_goOut_11 ?_
  refine lv_icmp_ge (tgt := 185) hx hb dX10_goOut_14 (by decide) (fun c => absurd c (by decide)) (fun _ => ?_)
  refine lv_aload_n hx hb dX10_goOut_17 rfl (lv_at hl 2 rfl) ?_
  refine va_get (D := D) (ci := 10) (v := .ref h2) (C := RX10) (T := TX10) (N := 34) hx hb hts iw_k_X10_goOut_X10 hown hK hP 0 rfl rfl 29 (by decide) (hts (.fieldLink RX10 77 "TopTurnedModel" "line" "[I") (by decide +kernel)) (fun _ h9 => h9) rfl dX10_goOut_18 ?_
  refine lv_iload_n hx hb dX10_goOut_21 rfl (lv_at hl 0 rfl) ?_
  refine va_iald (i := 0) hx hb hK hP 2 1 rfl rfl (vp_in_iff.mpr (by decide)) dX10_goOut_22 ?_
  refine kt_eq (y := 0) (by decide +kernel) ?_
  refine lv_istore_n (lv' := [(3, .int 0), (2, .int 0), (1, .int 0), (0, .ref h0)]) hx hb dX10_goOut_23 rfl hl (by decide) rfl (fun ls hl => ?_)
  refine lv_iconst (v := 0) hx hb dX10_goOut_24 (by decide) ?_
  refine lv_istore (lv' := [(4, .int 0), (3, .int 0), (2, .int 0), (1, .int 0), (0, .ref h0)]) hx hb dX10_goOut_25 hl (by decide) rfl (fun ls hl => ?_)
  refine lv_iload hx hb dX10_goOut_27 (lv_at hl 0 rfl) ?_
  refine lv_iload_n hx hb dX10_goOut_29 rfl (lv_at hl 3 rfl) ?_
  refine lv_icmp_ge (tgt := 179) hx hb dX10_goOut_30 (by decide) (fun _ => ?_) (fun c => absurd (by decide) c)
  refine lv_iinc (v := 1) (lv' := [(2, .int 1), (4, .int 0), (3, .int 0), (1, .int 0), (0, .ref h0)]) hx hb dX10_goOut_179 hl (k := 2) rfl (by decide) (by decide) rfl (fun ls hl => ?_)
  refine lv_goto (tgt := 9) hx hb dX10_goOut_182 (by decide) ?_
  refine lv_iload_n hx hb dX10_goOut_9 rfl (lv_at hl 0 rfl) ?_
  refine lv_aload_n hx hb dX10_goOut_10 rfl (lv_at hl 4 rfl) ?_
  refine va_get (D := D) (ci := 10) (v := .int 1) (C := RX10) (T := TX10) (N := 34) hx hb hts iw_k_X10_goOut_X10 hown hK hP 0 rfl rfl 30 (by decide) (hts (.fieldLink RX10 181 "TopTurnedModel" "lined" "I") (by decide +kernel)) (fun _ h9 => h9) rfl dX10_goOut_11 ?_
  refine lv_icmp_ge (tgt := 185) hx hb dX10_goOut_14 (by decide) (fun _ => ?_) (fun c => absurd (by decide) c)
  exact W.vret hx hb hr (fun t ht hW => ⟨⟨(), rfl, trivial, trivial⟩, hS.F ht⟩) hS.2.2 dX10_goOut_185
