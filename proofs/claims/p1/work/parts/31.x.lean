def sw_k_X9_path : List Cond := .code yX9_path cX9_path 1 (some .int) :: (([.fieldLink RX9 10 "TopTurned" "now" "LTopTurned$Told;", .methodLink RX9 198 yX6_rowIsOrder, .instanceMethod yX6_rowIsOrder, .selects RX6 yX6_rowIsOrder yX6_rowIsOrder, .initialized RX6, .fieldLink RX9 192 "TopTurned$Told" "rowCount" "I", .fieldLink RX9 68 "TopTurned" "walks" "LTopTurned$Walks;", .methodLink RX9 149 yX9_heapState, .instanceMethod yX9_heapState, .selects RX9 yX9_heapState yX9_heapState, .initialized RX9, .fieldLink RX9 38 "TopTurned" "space" "LTopTurned$Space;", .fieldLink RX9 195 "TopTurned$Told" "row" "[I", .methodLink RX9 202 yX5_stateOf, .instanceMethod yX5_stateOf, .selects RX5 yX5_stateOf yX5_stateOf, .initialized RX5, .methodLink RX9 205 yX8_turnsBetween, .instanceMethod yX8_turnsBetween, .selects RX8 yX8_turnsBetween yX8_turnsBetween, .initialized RX8, .methodLink RX9 162 yX9_orNone, .static yX9_orNone] : List Cond) ++ (wsX90 ++ (sw_k_X6_rowIsOrder ++ (wsX60 ++ (sw_k_X9_heapState ++ (sw_k_X5_stateOf ++ (sw_k_X8_turnsBetween ++ (sw_k_X9_orNone ++ (([] : List Cond))))))))))
theorem gd_k_X9_path : ∀ w ∈ sw_k_X9_path, (w.onTables && w.keeps) = true ∨ ∃ ty, w = .arrayClass ty := List.forall_mem_cons.mpr ⟨good_of_word rfl, List.forall_mem_append.mpr ⟨fun w h => good_of_word (List.all_eq_true.mp (by decide +kernel : (([.fieldLink RX9 10 "TopTurned" "now" "LTopTurned$Told;", .methodLink RX9 198 yX6_rowIsOrder, .instanceMethod yX6_rowIsOrder, .selects RX6 yX6_rowIsOrder yX6_rowIsOrder, .initialized RX6, .fieldLink RX9 192 "TopTurned$Told" "rowCount" "I", .fieldLink RX9 68 "TopTurned" "walks" "LTopTurned$Walks;", .methodLink RX9 149 yX9_heapState, .instanceMethod yX9_heapState, .selects RX9 yX9_heapState yX9_heapState, .initialized RX9, .fieldLink RX9 38 "TopTurned" "space" "LTopTurned$Space;", .fieldLink RX9 195 "TopTurned$Told" "row" "[I", .methodLink RX9 202 yX5_stateOf, .instanceMethod yX5_stateOf, .selects RX5 yX5_stateOf yX5_stateOf, .initialized RX5, .methodLink RX9 205 yX8_turnsBetween, .instanceMethod yX8_turnsBetween, .selects RX8 yX8_turnsBetween yX8_turnsBetween, .initialized RX8, .methodLink RX9 162 yX9_orNone, .static yX9_orNone] : List Cond)).all goodWord = true) w h), List.forall_mem_append.mpr ⟨gw_X9, List.forall_mem_append.mpr ⟨gd_k_X6_rowIsOrder, List.forall_mem_append.mpr ⟨gw_X6, List.forall_mem_append.mpr ⟨gd_k_X9_heapState, List.forall_mem_append.mpr ⟨gd_k_X5_stateOf, List.forall_mem_append.mpr ⟨gd_k_X8_turnsBetween, List.forall_mem_append.mpr ⟨gd_k_X9_orNone, fun _ h => absurd h List.not_mem_nil⟩⟩⟩⟩⟩⟩⟩⟩⟩
theorem iw_k_X9_path_X9 : ∀ w ∈ wsX90, w ∈ sw_k_X9_path := fun _ h => List.mem_cons_of_mem _ (List.mem_append_right _ (List.mem_append_left _ h))
theorem gc_k_X9_path_k_X6_rowIsOrder : GoodIn sw_k_X9_path sw_k_X6_rowIsOrder := fun w h => ⟨List.mem_cons_of_mem _ (List.mem_append_right _ (List.mem_append_right _ (List.mem_append_left _ h))), gd_k_X6_rowIsOrder w h⟩
theorem iw_k_X9_path_X6 : ∀ w ∈ wsX60, w ∈ sw_k_X9_path := fun _ h => List.mem_cons_of_mem _ (List.mem_append_right _ (List.mem_append_right _ (List.mem_append_right _ (List.mem_append_left _ h))))
theorem gc_k_X9_path_k_X9_heapState : GoodIn sw_k_X9_path sw_k_X9_heapState := fun w h => ⟨List.mem_cons_of_mem _ (List.mem_append_right _ (List.mem_append_right _ (List.mem_append_right _ (List.mem_append_right _ (List.mem_append_left _ h))))), gd_k_X9_heapState w h⟩
theorem gc_k_X9_path_k_X5_stateOf : GoodIn sw_k_X9_path sw_k_X5_stateOf := fun w h => ⟨List.mem_cons_of_mem _ (List.mem_append_right _ (List.mem_append_right _ (List.mem_append_right _ (List.mem_append_right _ (List.mem_append_right _ (List.mem_append_left _ h)))))), gd_k_X5_stateOf w h⟩
theorem gc_k_X9_path_k_X8_turnsBetween : GoodIn sw_k_X9_path sw_k_X8_turnsBetween := fun w h => ⟨List.mem_cons_of_mem _ (List.mem_append_right _ (List.mem_append_right _ (List.mem_append_right _ (List.mem_append_right _ (List.mem_append_right _ (List.mem_append_right _ (List.mem_append_left _ h))))))), gd_k_X8_turnsBetween w h⟩
theorem gc_k_X9_path_k_X9_orNone : GoodIn sw_k_X9_path sw_k_X9_orNone := fun w h => ⟨List.mem_cons_of_mem _ (List.mem_append_right _ (List.mem_append_right _ (List.mem_append_right _ (List.mem_append_right _ (List.mem_append_right _ (List.mem_append_right _ (List.mem_append_right _ (List.mem_append_left _ h)))))))), gd_k_X9_orNone w h⟩
set_option maxHeartbeats 4000000 in
set_option maxRecDepth 100000 in
theorem k_X9_path (l : Launch) (D : va_G) (cC cI cZ : ClassId) (h0 h1 h2 h3 h4 h5 h6 h7 h8 h9 h10 h11 h12 h13 h14 h15 h16 h17 h18 h19 h20 h21 h22 h23 h24 h25 h26 h27 h28 h29 : Nat) (sz : Nat) : Met l yX9_path sw_k_X9_path ({ frames := 8, cells := 0, slots := 0, locals := 400 }) (va_Pc [.ref h0] (kPre D cC cI cZ [(h0, .inr (9, [.ref h1, .ref h8, .ref h9, .int 0, .ref h10, .ref h2, .ref h11, .ref h7, .ref h3, .ref h12, .ref h13, .ref h14])), (h1, .inr (6, [.int 0, .ref h15, .ref h16, .int 0, .int 5, .int 9, .int 0, .int 1, .int 0, .int 0, .ref h17, .ref h18, .int 0, .ref h19, .int 0, .ref h20, .int 0])), (h2, .inr (5, [.int 0, .int 1, .int 1, .int 1, .int 0, .ref h21, .ref h22, .ref h23, .ref h24, .ref h25, .ref h26])), (h3, .inr (8, [.ref h2, .ref h11, .ref h7, .ref h6, .ref h4, .ref h5])), (h4, .inl (cI, 3840, .inl (fun _ => 0))), (h5, .inl (cI, 3840, .inl (fun _ => 0))), (h6, .inl (cI, 3840, .inl (fun _ => 0))), (h7, .inr (1, [.ref h2, .ref h11, .ref h6, .ref h4, .ref h27, .ref h28, .ref h29, .int 0, .int 0]))] sz)) (va_Qi (fun (r : Int32) (_ : Unit) => r = 0) (fun _ _ => True) (va_A [(h0, .inr (9, [.ref h1, .ref h8, .ref h9, .int 0, .ref h10, .ref h2, .ref h11, .ref h7, .ref h3, .ref h12, .ref h13, .ref h14])), (h1, .inr (6, [.int 0, .ref h15, .ref h16, .int 0, .int 5, .int 9, .int 0, .int 1, .int 0, .int 0, .ref h17, .ref h18, .int 0, .ref h19, .int 0, .ref h20, .int 0])), (h2, .inr (5, [.int 0, .int 1, .int 1, .int 1, .int 0, .ref h21, .ref h22, .ref h23, .ref h24, .ref h25, .ref h26])), (h3, .inr (8, [.ref h2, .ref h11, .ref h7, .ref h6, .ref h4, .ref h5])), (h4, .inl (cI, 3840, .inl (fun _ => 0))), (h5, .inl (cI, 3840, .inl (fun _ => 0))), (h6, .inl (cI, 3840, .inl (fun _ => 0))), (h7, .inr (1, [.ref h2, .ref h11, .ref h6, .ref h4, .ref h27, .ref h28, .ref h29, .int 0, .int 0]))] sz)) 0 0 (va_A [(h0, .inr (9, [.ref h1, .ref h8, .ref h9, .int 0, .ref h10, .ref h2, .ref h11, .ref h7, .ref h3, .ref h12, .ref h13, .ref h14])), (h1, .inr (6, [.int 0, .ref h15, .ref h16, .int 0, .int 5, .int 9, .int 0, .int 1, .int 0, .int 0, .ref h17, .ref h18, .int 0, .ref h19, .int 0, .ref h20, .int 0])), (h2, .inr (5, [.int 0, .int 1, .int 1, .int 1, .int 0, .ref h21, .ref h22, .ref h23, .ref h24, .ref h25, .ref h26])), (h3, .inr (8, [.ref h2, .ref h11, .ref h7, .ref h6, .ref h4, .ref h5])), (h4, .inl (cI, 3840, .inl (fun _ => 0))), (h5, .inl (cI, 3840, .inl (fun _ => 0))), (h6, .inl (cI, 3840, .inl (fun _ => 0))), (h7, .inr (1, [.ref h2, .ref h11, .ref h6, .ref h4, .ref h27, .ref h28, .ref h29, .int 0, .int 0]))] sz) := by
  refine Met.ofW (cc := cX9_path) (maxL := 1) (ret := (some .int)) (by decide) rfl ?_
  intro p e s m args below meth c s₁ B hml hv
  obtain ⟨rfl, hsz, hP, hK, hD0⟩ := hv
  have hx := B.exec
  have hb := B.bytes
  have hr := B.returns
  have hts := atoms_spec (ws := sw_k_X9_path) B.pre
  have hown : s.vm.findClass RX9 = some m.cls := findClass_of_methodNamed B.named
  have hlocks := B.notSynchronized
  subst hsz
  have hD := hD0.self (sz := s.heap.size)
  generalize hAe : va_A [(h0, .inr (9, [.ref h1, .ref h8, .ref h9, .int 0, .ref h10, .ref h2, .ref h11, .ref h7, .ref h3, .ref h12, .ref h13, .ref h14])), (h1, .inr (6, [.int 0, .ref h15, .ref h16, .int 0, .int 5, .int 9, .int 0, .int 1, .int 0, .int 0, .ref h17, .ref h18, .int 0, .ref h19, .int 0, .ref h20, .int 0])), (h2, .inr (5, [.int 0, .int 1, .int 1, .int 1, .int 0, .ref h21, .ref h22, .ref h23, .ref h24, .ref h25, .ref h26])), (h3, .inr (8, [.ref h2, .ref h11, .ref h7, .ref h6, .ref h4, .ref h5])), (h4, .inl (cI, 3840, .inl (fun _ => 0))), (h5, .inl (cI, 3840, .inl (fun _ => 0))), (h6, .inl (cI, 3840, .inl (fun _ => 0))), (h7, .inr (1, [.ref h2, .ref h11, .ref h6, .ref h4, .ref h27, .ref h28, .ref h29, .int 0, .int 0]))] s.heap.size = A at hD ⊢
  have hA : ∀ q : Nat, s.heap.size ≤ q → A q := fun q h => by rw [← hAe]; exact Or.inr h
  have hS : va_S A s.heap s.heap [] := va_S.rf
  have hl := lv_entry ([.ref h0]) (n := 1) (Nat.le_of_ble_eq_true rfl)
  rw [lg_entry_eq]
  generalize (lg_sl ([.ref h0]) ++ List.replicate (1 - (lg_sl ([.ref h0])).length) Slot.unset).toArray = ls at hl ⊢
  have hl : lv_has ls 1 [(0, .ref h0)] := hl
  refine lv_aload_n hx hb dX9_path_0 rfl (lv_at hl 0 rfl) ?_
  refine va_get (D := D) (ci := 9) (v := .ref h1) (C := RX9) (T := TX9) (N := 12) hx hb hts iw_k_X9_path_X9 hown hK hP 0 rfl rfl 0 (by decide) (hts (.fieldLink RX9 10 "TopTurned" "now" "LTopTurned$Told;") (by decide +kernel)) (fun _ h9 => h9) rfl dX9_path_1 ?_
  have hPc := hP.sub (ws' := [(h1, .inr (6, [.int 0, .ref h15, .ref h16, .int 0, .int 5, .int 9, .int 0, .int 1, .int 0, .int 0, .ref h17, .ref h18, .int 0, .ref h19, .int 0, .ref h20, .int 0]))]) [1] rfl
  have hDc := hD.sub (ws' := [(h1, .inr (6, [.int 0, .ref h15, .ref h16, .int 0, .int 5, .int 9, .int 0, .int 1, .int 0, .int 0, .ref h17, .ref h18, .int 0, .ref h19, .int 0, .ref h20, .int 0]))]) [1] (by decide) rfl
  refine va_calli (va_runV (As := []) (rest := []) ⟨hx, hb, hml, hown, hts⟩ (k_X6_rowIsOrder l D cC cI cZ h1 h15 h16 h17 h18 h19 h20 s.heap.size ) (cwV (C := RX6) 0 hts (goodIn_app (goodIn_of _ (by decide +kernel)) gc_k_X9_path_k_X6_rowIsOrder) rfl rfl rfl (by decide +kernel) ⟨(Nat.le_of_ble_eq_true rfl), (Nat.le_of_ble_eq_true rfl)⟩) (kPreV hK hPc hDc (va_recv hK hPc (ci := 6) (q0 := 0) rfl rfl)) rfl rfl hl.1 rfl (lv_room (Nat.le_of_ble_eq_true rfl)) dX9_path_4 ⟨(Nat.le_of_ble_eq_true rfl), (Nat.le_of_ble_eq_true rfl)⟩) hS (fun q _ h => False.elim h) (fun q h => False.elim h) (fun r1 u t H1 locs ht hvm hw hB hz1 hk1 hS => ?_)
  have hP := hP.kept (H1 := H1) (fun k q hk => hk1 q.1 (hP k q hk).lt (fun h => h))
  generalize H1 = H at hP hS ⊢
  have hw : r1 = 1 := hw
  subst hw
  refine lv_if_ne (tgt := 17) hx hb dX9_path_7 (by decide) (fun _ => ?_) (fun c => absurd c (by decide))
  refine lv_aload_n hx hb dX9_path_17 rfl (lv_at hl 0 rfl) ?_
  refine va_get (D := D) (ci := 9) (v := .ref h1) (C := RX9) (T := TX9) (N := 12) hx hb hts iw_k_X9_path_X9 hown hK hP 0 rfl rfl 0 (by decide) (hts (.fieldLink RX9 10 "TopTurned" "now" "LTopTurned$Told;") (by decide +kernel)) (fun _ h9 => h9) rfl dX9_path_18 ?_
  refine lv_iconst (v := 0) hx hb dX9_path_21 (by decide) ?_
  refine va_put (D := D) (ci := 6) (v := .int 0) (ty := .int) (C := RX6) (T := TX6) (N := 17) hx hb hts iw_k_X9_path_X6 tyX6 tyX6_ok nmX6 hown hK hP hD hS 1 rfl rfl 16 (by decide) (hts (.fieldLink RX9 192 "TopTurned$Told" "rowCount" "I") (by decide +kernel)) (fun _ h9 => h9) rfl (by decide +kernel) rfl rfl (Nat.le_of_ble_eq_true rfl) dX9_path_22 (fun H locs hP hD hS => ?_)
  have hP : va_P D vwCl [(h0, .inr (9, [.ref h1, .ref h8, .ref h9, .int 0, .ref h10, .ref h2, .ref h11, .ref h7, .ref h3, .ref h12, .ref h13, .ref h14])), (h1, .inr (6, [.int 0, .ref h15, .ref h16, .int 0, .int 5, .int 9, .int 0, .int 1, .int 0, .int 0, .ref h17, .ref h18, .int 0, .ref h19, .int 0, .ref h20, .int 0])), (h2, .inr (5, [.int 0, .int 1, .int 1, .int 1, .int 0, .ref h21, .ref h22, .ref h23, .ref h24, .ref h25, .ref h26])), (h3, .inr (8, [.ref h2, .ref h11, .ref h7, .ref h6, .ref h4, .ref h5])), (h4, .inl (cI, 3840, .inl (fun _ => 0))), (h5, .inl (cI, 3840, .inl (fun _ => 0))), (h6, .inl (cI, 3840, .inl (fun _ => 0))), (h7, .inr (1, [.ref h2, .ref h11, .ref h6, .ref h4, .ref h27, .ref h28, .ref h29, .int 0, .int 0]))] H := hP
  have hD : va_D A [(h0, .inr (9, [.ref h1, .ref h8, .ref h9, .int 0, .ref h10, .ref h2, .ref h11, .ref h7, .ref h3, .ref h12, .ref h13, .ref h14])), (h1, .inr (6, [.int 0, .ref h15, .ref h16, .int 0, .int 5, .int 9, .int 0, .int 1, .int 0, .int 0, .ref h17, .ref h18, .int 0, .ref h19, .int 0, .ref h20, .int 0])), (h2, .inr (5, [.int 0, .int 1, .int 1, .int 1, .int 0, .ref h21, .ref h22, .ref h23, .ref h24, .ref h25, .ref h26])), (h3, .inr (8, [.ref h2, .ref h11, .ref h7, .ref h6, .ref h4, .ref h5])), (h4, .inl (cI, 3840, .inl (fun _ => 0))), (h5, .inl (cI, 3840, .inl (fun _ => 0))), (h6, .inl (cI, 3840, .inl (fun _ => 0))), (h7, .inr (1, [.ref h2, .ref h11, .ref h6, .ref h4, .ref h27, .ref h28, .ref h29, .int 0, .int 0]))] := hD
  refine lv_aload_n hx hb dX9_path_25 rfl (lv_at hl 0 rfl) ?_
  refine va_get (D := D) (ci := 9) (v := .ref h3) (C := RX9) (T := TX9) (N := 12) hx hb hts iw_k_X9_path_X9 hown hK hP 0 rfl rfl 8 (by decide) (hts (.fieldLink RX9 68 "TopTurned" "walks" "LTopTurned$Walks;") (by decide +kernel)) (fun _ h9 => h9) rfl dX9_path_26 ?_
  refine lv_aload_n hx hb dX9_path_29 rfl (lv_at hl 0 rfl) ?_
  have hPc := hP.sub (ws' := [(h0, .inr (9, [.ref h1, .ref h8, .ref h9, .int 0, .ref h10, .ref h2, .ref h11, .ref h7, .ref h3, .ref h12, .ref h13, .ref h14])), (h1, .inr (6, [.int 0, .ref h15, .ref h16, .int 0, .int 5, .int 9, .int 0, .int 1, .int 0, .int 0, .ref h17, .ref h18, .int 0, .ref h19, .int 0, .ref h20, .int 0])), (h2, .inr (5, [.int 0, .int 1, .int 1, .int 1, .int 0, .ref h21, .ref h22, .ref h23, .ref h24, .ref h25, .ref h26]))]) [0, 1, 2] rfl
  have hDc := hD.sub (ws' := [(h0, .inr (9, [.ref h1, .ref h8, .ref h9, .int 0, .ref h10, .ref h2, .ref h11, .ref h7, .ref h3, .ref h12, .ref h13, .ref h14])), (h1, .inr (6, [.int 0, .ref h15, .ref h16, .int 0, .int 5, .int 9, .int 0, .int 1, .int 0, .int 0, .ref h17, .ref h18, .int 0, .ref h19, .int 0, .ref h20, .int 0])), (h2, .inr (5, [.int 0, .int 1, .int 1, .int 1, .int 0, .ref h21, .ref h22, .ref h23, .ref h24, .ref h25, .ref h26]))]) [0, 1, 2] (by decide) rfl
  refine va_calli (va_runV (As := []) (rest := [.ref h3]) ⟨hx, hb, hml, hown, hts⟩ (k_X9_heapState l D cC cI cZ h0 h1 h2 h8 h9 h10 h11 h7 h3 h12 h13 h14 h15 h16 h17 h18 h19 h20 h21 h22 h23 h24 h25 h26 H.size ) (cwV (C := RX9) 0 hts (goodIn_app (goodIn_of _ (by decide +kernel)) gc_k_X9_path_k_X9_heapState) rfl rfl rfl (by decide +kernel) ⟨(Nat.le_of_ble_eq_true rfl), (Nat.le_of_ble_eq_true rfl)⟩) (kPreV hK hPc hDc (va_recv hK hPc (ci := 9) (q0 := 0) rfl rfl)) rfl rfl hl.1 rfl (lv_room (Nat.le_of_ble_eq_true rfl)) dX9_path_30 ⟨(Nat.le_of_ble_eq_true rfl), (Nat.le_of_ble_eq_true rfl)⟩) hS (fun q _ h => False.elim h) (fun q h => False.elim h) (fun r2 u t H1 locs ht hvm hw hB hz1 hk1 hS => ?_)
  have hP := hP.kept (H1 := H1) (fun k q hk => hk1 q.1 (hP k q hk).lt (fun h => h))
  generalize H1 = H at hP hS ⊢
  have hw : r2 = 0 := hw
  subst hw
  refine lv_aload_n hx hb dX9_path_33 rfl (lv_at hl 0 rfl) ?_
  refine va_get (D := D) (ci := 9) (v := .ref h2) (C := RX9) (T := TX9) (N := 12) hx hb hts iw_k_X9_path_X9 hown hK hP 0 rfl rfl 5 (by decide) (hts (.fieldLink RX9 38 "TopTurned" "space" "LTopTurned$Space;") (by decide +kernel)) (fun _ h9 => h9) rfl dX9_path_34 ?_
  refine lv_aload_n hx hb dX9_path_37 rfl (lv_at hl 0 rfl) ?_
  refine va_get (D := D) (ci := 9) (v := .ref h1) (C := RX9) (T := TX9) (N := 12) hx hb hts iw_k_X9_path_X9 hown hK hP 0 rfl rfl 0 (by decide) (hts (.fieldLink RX9 10 "TopTurned" "now" "LTopTurned$Told;") (by decide +kernel)) (fun _ h9 => h9) rfl dX9_path_38 ?_
  refine va_get (D := D) (ci := 6) (v := .ref h20) (C := RX6) (T := TX6) (N := 17) hx hb hts iw_k_X9_path_X6 hown hK hP 1 rfl rfl 15 (by decide) (hts (.fieldLink RX9 195 "TopTurned$Told" "row" "[I") (by decide +kernel)) (fun _ h9 => h9) rfl dX9_path_41 ?_
  have hPc := hP.sub (ws' := [(h2, .inr (5, [.int 0, .int 1, .int 1, .int 1, .int 0, .ref h21, .ref h22, .ref h23, .ref h24, .ref h25, .ref h26]))]) [2] rfl
  have hDc := hD.sub (ws' := [(h2, .inr (5, [.int 0, .int 1, .int 1, .int 1, .int 0, .ref h21, .ref h22, .ref h23, .ref h24, .ref h25, .ref h26]))]) [2] (by decide) rfl
  refine va_calli (va_runV (As := [.ref h20]) (rest := [.int 0, .ref h3]) ⟨hx, hb, hml, hown, hts⟩ (k_X5_stateOf l D cC cI cZ h2 h20 h21 h22 h23 h24 h25 h26 H.size ) (cwV (C := RX5) 1 hts (goodIn_app (goodIn_of _ (by decide +kernel)) gc_k_X9_path_k_X5_stateOf) rfl rfl rfl (by decide +kernel) ⟨(Nat.le_of_ble_eq_true rfl), (Nat.le_of_ble_eq_true rfl)⟩) (kPreV hK hPc hDc (va_recv hK hPc (ci := 5) (q0 := 0) rfl rfl)) rfl rfl hl.1 rfl (lv_room (Nat.le_of_ble_eq_true rfl)) dX9_path_44 ⟨(Nat.le_of_ble_eq_true rfl), (Nat.le_of_ble_eq_true rfl)⟩) hS (fun q _ h => False.elim h) (fun q h => False.elim h) (fun r3 u t H1 locs ht hvm hw hB hz1 hk1 hS => ?_)
  have hP := hP.kept (H1 := H1) (fun k q hk => hk1 q.1 (hP k q hk).lt (fun h => h))
  generalize H1 = H at hP hS ⊢
  have hw : r3 = 0 := hw
  subst hw
  have hPc := hP.sub (ws' := [(h3, .inr (8, [.ref h2, .ref h11, .ref h7, .ref h6, .ref h4, .ref h5])), (h2, .inr (5, [.int 0, .int 1, .int 1, .int 1, .int 0, .ref h21, .ref h22, .ref h23, .ref h24, .ref h25, .ref h26])), (h4, .inl (cI, 3840, .inl (fun _ => 0))), (h5, .inl (cI, 3840, .inl (fun _ => 0))), (h6, .inl (cI, 3840, .inl (fun _ => 0))), (h7, .inr (1, [.ref h2, .ref h11, .ref h6, .ref h4, .ref h27, .ref h28, .ref h29, .int 0, .int 0]))]) [3, 2, 4, 5, 6, 7] rfl
  have hDc := hD.sub (ws' := [(h3, .inr (8, [.ref h2, .ref h11, .ref h7, .ref h6, .ref h4, .ref h5])), (h2, .inr (5, [.int 0, .int 1, .int 1, .int 1, .int 0, .ref h21, .ref h22, .ref h23, .ref h24, .ref h25, .ref h26])), (h4, .inl (cI, 3840, .inl (fun _ => 0))), (h5, .inl (cI, 3840, .inl (fun _ => 0))), (h6, .inl (cI, 3840, .inl (fun _ => 0))), (h7, .inr (1, [.ref h2, .ref h11, .ref h6, .ref h4, .ref h27, .ref h28, .ref h29, .int 0, .int 0]))]) [3, 2, 4, 5, 6, 7] (by decide) rfl
  have hFc := va_free (wc := [(h3, .inr (8, [.ref h2, .ref h11, .ref h7, .ref h6, .ref h4, .ref h5])), (h2, .inr (5, [.int 0, .int 1, .int 1, .int 1, .int 0, .ref h21, .ref h22, .ref h23, .ref h24, .ref h25, .ref h26])), (h4, .inl (cI, 3840, .inl (fun _ => 0))), (h5, .inl (cI, 3840, .inl (fun _ => 0))), (h6, .inl (cI, 3840, .inl (fun _ => 0))), (h7, .inr (1, [.ref h2, .ref h11, .ref h6, .ref h4, .ref h27, .ref h28, .ref h29, .int 0, .int 0]))]) hD hS hA [3, 2, 4, 5, 6, 7] rfl
  refine va_calli (va_runV (As := [.int 0, .int 0]) (rest := []) ⟨hx, hb, hml, hown, hts⟩ (k_X8_turnsBetween l D cC cI cZ h3 h2 h4 h5 h6 h7 h11 h21 h22 h23 h24 h25 h26 h27 h28 h29 H.size ) (cwV (C := RX8) 2 hts (goodIn_app (goodIn_of _ (by decide +kernel)) gc_k_X9_path_k_X8_turnsBetween) rfl rfl rfl (by decide +kernel) ⟨(Nat.le_of_ble_eq_true rfl), (Nat.le_of_ble_eq_true rfl)⟩) (kPreV hK hPc hDc (va_recv hK hPc (ci := 8) (q0 := 0) rfl rfl)) rfl rfl hl.1 rfl (lv_room (Nat.le_of_ble_eq_true rfl)) dX9_path_47 ⟨(Nat.le_of_ble_eq_true rfl), (Nat.le_of_ble_eq_true rfl)⟩) hS (fun q _ h => hFc q h) hFc (fun r4 u t H1 locs ht hvm hw hB hz1 hk1 hS => ?_)
  obtain ⟨hP1, hD1⟩ := hB
  rw [ht] at hP1
  obtain ⟨hP, hD⟩ := va_join (wr := [(h0, .inr (9, [.ref h1, .ref h8, .ref h9, .int 0, .ref h10, .ref h2, .ref h11, .ref h7, .ref h3, .ref h12, .ref h13, .ref h14])), (h1, .inr (6, [.int 0, .ref h15, .ref h16, .int 0, .int 5, .int 9, .int 0, .int 1, .int 0, .int 0, .ref h17, .ref h18, .int 0, .ref h19, .int 0, .ref h20, .int 0]))]) (w1 := [(h5, .inl (cI, 3840, .inl (upd (fun _ => 0) (Int32.toNatClampNeg 0) 1))), (h6, .inl (cI, 3840, .inl (fun _ => 0))), (h7, .inr (1, [.ref h2, .ref h11, .ref h6, .ref h4, .ref h27, .ref h28, .ref h29, .int 0, .int 0])), (h3, .inr (8, [.ref h2, .ref h11, .ref h7, .ref h6, .ref h4, .ref h5])), (h2, .inr (5, [.int 0, .int 1, .int 1, .int 1, .int 0, .ref h21, .ref h22, .ref h23, .ref h24, .ref h25, .ref h26])), (h4, .inl (cI, 3840, .inl (upd (upd (fun _ => 0) (Int32.toNatClampNeg 0) (-1)) (Int32.toNatClampNeg 0) 0)))]) hP hD [3, 2, 4, 5, 6, 7] [0, 1] rfl rfl (by decide) (by decide) hk1 hFc hP1 hD1
  generalize H1 = H at hP hS ⊢
  have hP : va_P D vwCl [(h0, .inr (9, [.ref h1, .ref h8, .ref h9, .int 0, .ref h10, .ref h2, .ref h11, .ref h7, .ref h3, .ref h12, .ref h13, .ref h14])), (h1, .inr (6, [.int 0, .ref h15, .ref h16, .int 0, .int 5, .int 9, .int 0, .int 1, .int 0, .int 0, .ref h17, .ref h18, .int 0, .ref h19, .int 0, .ref h20, .int 0])), (h5, .inl (cI, 3840, .inl (upd (fun _ => 0) (Int32.toNatClampNeg 0) 1))), (h6, .inl (cI, 3840, .inl (fun _ => 0))), (h7, .inr (1, [.ref h2, .ref h11, .ref h6, .ref h4, .ref h27, .ref h28, .ref h29, .int 0, .int 0])), (h3, .inr (8, [.ref h2, .ref h11, .ref h7, .ref h6, .ref h4, .ref h5])), (h2, .inr (5, [.int 0, .int 1, .int 1, .int 1, .int 0, .ref h21, .ref h22, .ref h23, .ref h24, .ref h25, .ref h26])), (h4, .inl (cI, 3840, .inl (upd (upd (fun _ => 0) (Int32.toNatClampNeg 0) (-1)) (Int32.toNatClampNeg 0) 0)))] H := hP
  have hD : va_D A [(h0, .inr (9, [.ref h1, .ref h8, .ref h9, .int 0, .ref h10, .ref h2, .ref h11, .ref h7, .ref h3, .ref h12, .ref h13, .ref h14])), (h1, .inr (6, [.int 0, .ref h15, .ref h16, .int 0, .int 5, .int 9, .int 0, .int 1, .int 0, .int 0, .ref h17, .ref h18, .int 0, .ref h19, .int 0, .ref h20, .int 0])), (h5, .inl (cI, 3840, .inl (upd (fun _ => 0) (Int32.toNatClampNeg 0) 1))), (h6, .inl (cI, 3840, .inl (fun _ => 0))), (h7, .inr (1, [.ref h2, .ref h11, .ref h6, .ref h4, .ref h27, .ref h28, .ref h29, .int 0, .int 0])), (h3, .inr (8, [.ref h2, .ref h11, .ref h7, .ref h6, .ref h4, .ref h5])), (h2, .inr (5, [.int 0, .int 1, .int 1, .int 1, .int 0, .ref h21, .ref h22, .ref h23, .ref h24, .ref h25, .ref h26])), (h4, .inl (cI, 3840, .inl (upd (upd (fun _ => 0) (Int32.toNatClampNeg 0) (-1)) (Int32.toNatClampNeg 0) 0)))] := hD
  have hw : r4 = 0 := hw
  subst hw
  have hPc := hP.sub (ws' := []) [] rfl
  have hDc := hD.sub (ws' := []) [] (by decide) rfl
  refine va_calli (va_runS (As := [.int 0]) (rest := []) ⟨hx, hb, hml, hown, hts⟩ (k_X9_orNone l D cC cI cZ  H.size ) (va_cwS 1 hts (goodIn_app (goodIn_of _ (by decide +kernel)) gc_k_X9_path_k_X9_orNone) rfl rfl rfl (by decide +kernel) ⟨(Nat.le_of_ble_eq_true rfl), (Nat.le_of_ble_eq_true rfl)⟩) (kPreS hK hPc hDc) rfl rfl hl.1 rfl (lv_room (Nat.le_of_ble_eq_true rfl)) dX9_path_50 ⟨(Nat.le_of_ble_eq_true rfl), (Nat.le_of_ble_eq_true rfl)⟩) hS (fun q _ h => False.elim h) (fun q h => False.elim h) (fun r5 u t H1 locs ht hvm hw hB hz1 hk1 hS => ?_)
  have hP := hP.kept (H1 := H1) (fun k q hk => hk1 q.1 (hP k q hk).lt (fun h => h))
  generalize H1 = H at hP hS ⊢
  have hw : r5 = 0 := hw
  subst hw
  refine W.widen (k := 0) (n := 0) (Nat.le_of_ble_eq_true rfl) (Nat.le_of_ble_eq_true rfl) ?_
  exact W.iret (v := 0) hx hb hr (fun t ht hW => ⟨⟨0, (), rfl, rfl, trivial⟩, hS.F ht⟩) hS.2.2 dX9_path_53
def sw_k_X9_judge : List Cond := .code yX9_judge cX9_judge 5 (some .int) :: (([.fieldLink RX9 10 "TopTurned" "now" "LTopTurned$Told;", .fieldLink RX9 192 "TopTurned$Told" "rowCount" "I", .methodLink RX9 149 yX9_heapState, .instanceMethod yX9_heapState, .selects RX9 yX9_heapState yX9_heapState, .initialized RX9, .fieldLink RX9 47 "TopTurned" "rules" "LTopTurned$Rules;", .methodLink RX9 152 yX3_arranged, .instanceMethod yX3_arranged, .selects RX3 yX3_arranged yX3_arranged, .initialized RX3] : List Cond) ++ (wsX90 ++ (wsX60 ++ (sw_k_X9_heapState ++ (sw_k_X3_arranged ++ (([] : List Cond)))))))
theorem gd_k_X9_judge : ∀ w ∈ sw_k_X9_judge, (w.onTables && w.keeps) = true ∨ ∃ ty, w = .arrayClass ty := List.forall_mem_cons.mpr ⟨good_of_word rfl, List.forall_mem_append.mpr ⟨fun w h => good_of_word (List.all_eq_true.mp (by decide +kernel : (([.fieldLink RX9 10 "TopTurned" "now" "LTopTurned$Told;", .fieldLink RX9 192 "TopTurned$Told" "rowCount" "I", .methodLink RX9 149 yX9_heapState, .instanceMethod yX9_heapState, .selects RX9 yX9_heapState yX9_heapState, .initialized RX9, .fieldLink RX9 47 "TopTurned" "rules" "LTopTurned$Rules;", .methodLink RX9 152 yX3_arranged, .instanceMethod yX3_arranged, .selects RX3 yX3_arranged yX3_arranged, .initialized RX3] : List Cond)).all goodWord = true) w h), List.forall_mem_append.mpr ⟨gw_X9, List.forall_mem_append.mpr ⟨gw_X6, List.forall_mem_append.mpr ⟨gd_k_X9_heapState, List.forall_mem_append.mpr ⟨gd_k_X3_arranged, fun _ h => absurd h List.not_mem_nil⟩⟩⟩⟩⟩⟩
theorem iw_k_X9_judge_X9 : ∀ w ∈ wsX90, w ∈ sw_k_X9_judge := fun _ h => List.mem_cons_of_mem _ (List.mem_append_right _ (List.mem_append_left _ h))
theorem iw_k_X9_judge_X6 : ∀ w ∈ wsX60, w ∈ sw_k_X9_judge := fun _ h => List.mem_cons_of_mem _ (List.mem_append_right _ (List.mem_append_right _ (List.mem_append_left _ h)))
theorem gc_k_X9_judge_k_X9_heapState : GoodIn sw_k_X9_judge sw_k_X9_heapState := fun w h => ⟨List.mem_cons_of_mem _ (List.mem_append_right _ (List.mem_append_right _ (List.mem_append_right _ (List.mem_append_left _ h)))), gd_k_X9_heapState w h⟩
theorem gc_k_X9_judge_k_X3_arranged : GoodIn sw_k_X9_judge sw_k_X3_arranged := fun w h => ⟨List.mem_cons_of_mem _ (List.mem_append_right _ (List.mem_append_right _ (List.mem_append_right _ (List.mem_append_right _ (List.mem_append_left _ h))))), gd_k_X3_arranged w h⟩
set_option maxHeartbeats 4000000 in
set_option maxRecDepth 100000 in
theorem k_X9_judge (l : Launch) (D : va_G) (cC cI cZ : ClassId) (h0 h1 h2 h3 h4 h5 h6 h7 h8 h9 h10 h11 h12 h13 h14 h15 h16 h17 h18 h19 h20 h21 h22 h23 h24 h25 h26 : Nat) (sz : Nat) : Met l yX9_judge sw_k_X9_judge ({ frames := 8, cells := 0, slots := 0, locals := 400 }) (va_Pc [.ref h0] (kPre D cC cI cZ [(h0, .inr (9, [.ref h1, .ref h5, .ref h6, .int 0, .ref h7, .ref h2, .ref h3, .ref h8, .ref h9, .ref h10, .ref h11, .ref h12])), (h1, .inr (6, [.int 0, .ref h13, .ref h14, .int 0, .int 5, .int 9, .int 0, .int 1, .int 0, .int 0, .ref h15, .ref h16, .int 0, .ref h17, .int 0, .ref h18, .int 0])), (h2, .inr (5, [.int 0, .int 1, .int 1, .int 1, .int 0, .ref h19, .ref h20, .ref h21, .ref h22, .ref h23, .ref h24])), (h3, .inr (3, [.ref h1, .ref h2, .ref h25, .ref h4, .ref h26, .int 0])), (h4, .inl (cZ, 120, .inl (upd (fun _ => 0) (Int32.toNatClampNeg 0) (vp_nar .boolean 1))))] sz)) (va_Qi (fun (r : Int32) (_ : Unit) => r = (-9)) (fun _ _ => True) (va_A [(h0, .inr (9, [.ref h1, .ref h5, .ref h6, .int 0, .ref h7, .ref h2, .ref h3, .ref h8, .ref h9, .ref h10, .ref h11, .ref h12])), (h1, .inr (6, [.int 0, .ref h13, .ref h14, .int 0, .int 5, .int 9, .int 0, .int 1, .int 0, .int 0, .ref h15, .ref h16, .int 0, .ref h17, .int 0, .ref h18, .int 0])), (h2, .inr (5, [.int 0, .int 1, .int 1, .int 1, .int 0, .ref h19, .ref h20, .ref h21, .ref h22, .ref h23, .ref h24])), (h3, .inr (3, [.ref h1, .ref h2, .ref h25, .ref h4, .ref h26, .int 0])), (h4, .inl (cZ, 120, .inl (upd (fun _ => 0) (Int32.toNatClampNeg 0) (vp_nar .boolean 1))))] sz)) 0 0 (va_A [(h0, .inr (9, [.ref h1, .ref h5, .ref h6, .int 0, .ref h7, .ref h2, .ref h3, .ref h8, .ref h9, .ref h10, .ref h11, .ref h12])), (h1, .inr (6, [.int 0, .ref h13, .ref h14, .int 0, .int 5, .int 9, .int 0, .int 1, .int 0, .int 0, .ref h15, .ref h16, .int 0, .ref h17, .int 0, .ref h18, .int 0])), (h2, .inr (5, [.int 0, .int 1, .int 1, .int 1, .int 0, .ref h19, .ref h20, .ref h21, .ref h22, .ref h23, .ref h24])), (h3, .inr (3, [.ref h1, .ref h2, .ref h25, .ref h4, .ref h26, .int 0])), (h4, .inl (cZ, 120, .inl (upd (fun _ => 0) (Int32.toNatClampNeg 0) (vp_nar .boolean 1))))] sz) := by
  refine Met.ofW (cc := cX9_judge) (maxL := 5) (ret := (some .int)) (by decide) rfl ?_
  intro p e s m args below meth c s₁ B hml hv
  obtain ⟨rfl, hsz, hP, hK, hD0⟩ := hv
  have hx := B.exec
  have hb := B.bytes
  have hr := B.returns
  have hts := atoms_spec (ws := sw_k_X9_judge) B.pre
  have hown : s.vm.findClass RX9 = some m.cls := findClass_of_methodNamed B.named
  have hlocks := B.notSynchronized
  subst hsz
  have hD := hD0.self (sz := s.heap.size)
  generalize hAe : va_A [(h0, .inr (9, [.ref h1, .ref h5, .ref h6, .int 0, .ref h7, .ref h2, .ref h3, .ref h8, .ref h9, .ref h10, .ref h11, .ref h12])), (h1, .inr (6, [.int 0, .ref h13, .ref h14, .int 0, .int 5, .int 9, .int 0, .int 1, .int 0, .int 0, .ref h15, .ref h16, .int 0, .ref h17, .int 0, .ref h18, .int 0])), (h2, .inr (5, [.int 0, .int 1, .int 1, .int 1, .int 0, .ref h19, .ref h20, .ref h21, .ref h22, .ref h23, .ref h24])), (h3, .inr (3, [.ref h1, .ref h2, .ref h25, .ref h4, .ref h26, .int 0])), (h4, .inl (cZ, 120, .inl (upd (fun _ => 0) (Int32.toNatClampNeg 0) (vp_nar .boolean 1))))] s.heap.size = A at hD ⊢
  have hA : ∀ q : Nat, s.heap.size ≤ q → A q := fun q h => by rw [← hAe]; exact Or.inr h
  have hS : va_S A s.heap s.heap [] := va_S.rf
  have hl := lv_entry ([.ref h0]) (n := 5) (Nat.le_of_ble_eq_true rfl)
  rw [lg_entry_eq]
  generalize (lg_sl ([.ref h0]) ++ List.replicate (5 - (lg_sl ([.ref h0])).length) Slot.unset).toArray = ls at hl ⊢
  have hl : lv_has ls 5 [(0, .ref h0)] := hl
  refine lv_aload_n hx hb dX9_judge_0 rfl (lv_at hl 0 rfl) ?_
  refine va_get (D := D) (ci := 9) (v := .ref h1) (C := RX9) (T := TX9) (N := 12) hx hb hts iw_k_X9_judge_X9 hown hK hP 0 rfl rfl 0 (by decide) (hts (.fieldLink RX9 10 "TopTurned" "now" "LTopTurned$Told;") (by decide +kernel)) (fun _ h9 => h9) rfl dX9_judge_1 ?_
  refine va_get (D := D) (ci := 6) (v := .int 0) (C := RX6) (T := TX6) (N := 17) hx hb hts iw_k_X9_judge_X6 hown hK hP 1 rfl rfl 16 (by decide) (hts (.fieldLink RX9 192 "TopTurned$Told" "rowCount" "I") (by decide +kernel)) (fun _ h9 => h9) rfl dX9_judge_4 ?_
  refine lv_istore_n (lv' := [(1, .int 0), (0, .ref h0)]) hx hb dX9_judge_7 rfl hl (by decide) rfl (fun ls hl => ?_)
  refine lv_aload_n hx hb dX9_judge_8 rfl (lv_at hl 1 rfl) ?_
  refine va_get (D := D) (ci := 9) (v := .ref h1) (C := RX9) (T := TX9) (N := 12) hx hb hts iw_k_X9_judge_X9 hown hK hP 0 rfl rfl 0 (by decide) (hts (.fieldLink RX9 10 "TopTurned" "now" "LTopTurned$Told;") (by decide +kernel)) (fun _ h9 => h9) rfl dX9_judge_9 ?_
  refine lv_iconst (v := 0) hx hb dX9_judge_12 (by decide) ?_
  refine va_put (D := D) (ci := 6) (v := .int 0) (ty := .int) (C := RX6) (T := TX6) (N := 17) hx hb hts iw_k_X9_judge_X6 tyX6 tyX6_ok nmX6 hown hK hP hD hS 1 rfl rfl 16 (by decide) (hts (.fieldLink RX9 192 "TopTurned$Told" "rowCount" "I") (by decide +kernel)) (fun _ h9 => h9) rfl (by decide +kernel) rfl rfl (Nat.le_of_ble_eq_true rfl) dX9_judge_13 (fun H locs hP hD hS => ?_)
  have hP : va_P D vwCl [(h0, .inr (9, [.ref h1, .ref h5, .ref h6, .int 0, .ref h7, .ref h2, .ref h3, .ref h8, .ref h9, .ref h10, .ref h11, .ref h12])), (h1, .inr (6, [.int 0, .ref h13, .ref h14, .int 0, .int 5, .int 9, .int 0, .int 1, .int 0, .int 0, .ref h15, .ref h16, .int 0, .ref h17, .int 0, .ref h18, .int 0])), (h2, .inr (5, [.int 0, .int 1, .int 1, .int 1, .int 0, .ref h19, .ref h20, .ref h21, .ref h22, .ref h23, .ref h24])), (h3, .inr (3, [.ref h1, .ref h2, .ref h25, .ref h4, .ref h26, .int 0])), (h4, .inl (cZ, 120, .inl (upd (fun _ => 0) (Int32.toNatClampNeg 0) (vp_nar .boolean 1))))] H := hP
  have hD : va_D A [(h0, .inr (9, [.ref h1, .ref h5, .ref h6, .int 0, .ref h7, .ref h2, .ref h3, .ref h8, .ref h9, .ref h10, .ref h11, .ref h12])), (h1, .inr (6, [.int 0, .ref h13, .ref h14, .int 0, .int 5, .int 9, .int 0, .int 1, .int 0, .int 0, .ref h15, .ref h16, .int 0, .ref h17, .int 0, .ref h18, .int 0])), (h2, .inr (5, [.int 0, .int 1, .int 1, .int 1, .int 0, .ref h19, .ref h20, .ref h21, .ref h22, .ref h23, .ref h24])), (h3, .inr (3, [.ref h1, .ref h2, .ref h25, .ref h4, .ref h26, .int 0])), (h4, .inl (cZ, 120, .inl (upd (fun _ => 0) (Int32.toNatClampNeg 0) (vp_nar .boolean 1))))] := hD
  refine lv_aload_n hx hb dX9_judge_16 rfl (lv_at hl 1 rfl) ?_
  have hPc := hP.sub (ws' := [(h0, .inr (9, [.ref h1, .ref h5, .ref h6, .int 0, .ref h7, .ref h2, .ref h3, .ref h8, .ref h9, .ref h10, .ref h11, .ref h12])), (h1, .inr (6, [.int 0, .ref h13, .ref h14, .int 0, .int 5, .int 9, .int 0, .int 1, .int 0, .int 0, .ref h15, .ref h16, .int 0, .ref h17, .int 0, .ref h18, .int 0])), (h2, .inr (5, [.int 0, .int 1, .int 1, .int 1, .int 0, .ref h19, .ref h20, .ref h21, .ref h22, .ref h23, .ref h24]))]) [0, 1, 2] rfl
  have hDc := hD.sub (ws' := [(h0, .inr (9, [.ref h1, .ref h5, .ref h6, .int 0, .ref h7, .ref h2, .ref h3, .ref h8, .ref h9, .ref h10, .ref h11, .ref h12])), (h1, .inr (6, [.int 0, .ref h13, .ref h14, .int 0, .int 5, .int 9, .int 0, .int 1, .int 0, .int 0, .ref h15, .ref h16, .int 0, .ref h17, .int 0, .ref h18, .int 0])), (h2, .inr (5, [.int 0, .int 1, .int 1, .int 1, .int 0, .ref h19, .ref h20, .ref h21, .ref h22, .ref h23, .ref h24]))]) [0, 1, 2] (by decide) rfl
  refine va_calli (va_runV (As := []) (rest := []) ⟨hx, hb, hml, hown, hts⟩ (k_X9_heapState l D cC cI cZ h0 h1 h2 h5 h6 h7 h3 h8 h9 h10 h11 h12 h13 h14 h15 h16 h17 h18 h19 h20 h21 h22 h23 h24 H.size ) (cwV (C := RX9) 0 hts (goodIn_app (goodIn_of _ (by decide +kernel)) gc_k_X9_judge_k_X9_heapState) rfl rfl rfl (by decide +kernel) ⟨(Nat.le_of_ble_eq_true rfl), (Nat.le_of_ble_eq_true rfl)⟩) (kPreV hK hPc hDc (va_recv hK hPc (ci := 9) (q0 := 0) rfl rfl)) rfl rfl hl.1 rfl (lv_room (Nat.le_of_ble_eq_true rfl)) dX9_judge_17 ⟨(Nat.le_of_ble_eq_true rfl), (Nat.le_of_ble_eq_true rfl)⟩) hS (fun q _ h => False.elim h) (fun q h => False.elim h) (fun r1 u t H1 locs ht hvm hw hB hz1 hk1 hS => ?_)
  have hP := hP.kept (H1 := H1) (fun k q hk => hk1 q.1 (hP k q hk).lt (fun h => h))
  generalize H1 = H at hP hS ⊢
  have hw : r1 = 0 := hw
  subst hw
  refine lv_istore_n (lv' := [(2, .int 0), (1, .int 0), (0, .ref h0)]) hx hb dX9_judge_20 rfl hl (by decide) rfl (fun ls hl => ?_)
  refine lv_iconst (v := 0) hx hb dX9_judge_21 (by decide) ?_
  refine lv_istore_n (lv' := [(3, .int 0), (2, .int 0), (1, .int 0), (0, .ref h0)]) hx hb dX9_judge_22 rfl hl (by decide) rfl (fun ls hl => ?_)
  refine lv_iload_n hx hb dX9_judge_23 rfl (lv_at hl 0 rfl) ?_
  refine lv_iload_n hx hb dX9_judge_24 rfl (lv_at hl 2 rfl) ?_
  refine lv_icmp_ge (tgt := 90) hx hb dX9_judge_25 (by decide) (fun _ => ?_) (fun c => absurd (by decide) c)
  refine lv_aload_n hx hb dX9_judge_90 rfl (lv_at hl 3 rfl) ?_
  refine va_get (D := D) (ci := 9) (v := .ref h3) (C := RX9) (T := TX9) (N := 12) hx hb hts iw_k_X9_judge_X9 hown hK hP 0 rfl rfl 6 (by decide) (hts (.fieldLink RX9 47 "TopTurned" "rules" "LTopTurned$Rules;") (by decide +kernel)) (fun _ h9 => h9) rfl dX9_judge_91 ?_
  refine lv_iload_n hx hb dX9_judge_94 rfl (lv_at hl 1 rfl) ?_
  have hPc := hP.sub (ws' := [(h3, .inr (3, [.ref h1, .ref h2, .ref h25, .ref h4, .ref h26, .int 0])), (h2, .inr (5, [.int 0, .int 1, .int 1, .int 1, .int 0, .ref h19, .ref h20, .ref h21, .ref h22, .ref h23, .ref h24])), (h4, .inl (cZ, 120, .inl (upd (fun _ => 0) (Int32.toNatClampNeg 0) (vp_nar .boolean 1))))]) [3, 2, 4] rfl
  have hDc := hD.sub (ws' := [(h3, .inr (3, [.ref h1, .ref h2, .ref h25, .ref h4, .ref h26, .int 0])), (h2, .inr (5, [.int 0, .int 1, .int 1, .int 1, .int 0, .ref h19, .ref h20, .ref h21, .ref h22, .ref h23, .ref h24])), (h4, .inl (cZ, 120, .inl (upd (fun _ => 0) (Int32.toNatClampNeg 0) (vp_nar .boolean 1))))]) [3, 2, 4] (by decide) rfl
  refine va_calli (va_runV (As := [.int 0]) (rest := []) ⟨hx, hb, hml, hown, hts⟩ (k_X3_arranged l D cC cI cZ h3 h2 h4 h1 h25 h26 h19 h20 h21 h22 h23 h24 H.size ) (cwV (C := RX3) 1 hts (goodIn_app (goodIn_of _ (by decide +kernel)) gc_k_X9_judge_k_X3_arranged) rfl rfl rfl (by decide +kernel) ⟨(Nat.le_of_ble_eq_true rfl), (Nat.le_of_ble_eq_true rfl)⟩) (kPreV hK hPc hDc (va_recv hK hPc (ci := 3) (q0 := 0) rfl rfl)) rfl rfl hl.1 rfl (lv_room (Nat.le_of_ble_eq_true rfl)) dX9_judge_95 ⟨(Nat.le_of_ble_eq_true rfl), (Nat.le_of_ble_eq_true rfl)⟩) hS (fun q _ h => False.elim h) (fun q h => False.elim h) (fun r2 u t H1 locs ht hvm hw hB hz1 hk1 hS => ?_)
  have hP := hP.kept (H1 := H1) (fun k q hk => hk1 q.1 (hP k q hk).lt (fun h => h))
  generalize H1 = H at hP hS ⊢
  have hw : r2 = 1 := hw
  subst hw
  refine lv_if_eq (tgt := 106) hx hb dX9_judge_98 (by decide) (fun c => absurd c (by decide)) (fun _ => ?_)
  refine lv_bipush (v := (-9)) hx hb dX9_judge_101 (by decide) ?_
  refine lv_goto (tgt := 107) hx hb dX9_judge_103 (by decide) ?_
  refine W.widen (k := 0) (n := 0) (Nat.le_of_ble_eq_true rfl) (Nat.le_of_ble_eq_true rfl) ?_
  exact W.iret (v := (-9)) hx hb hr (fun t ht hW => ⟨⟨(-9), (), rfl, rfl, trivial⟩, hS.F ht⟩) hS.2.2 dX9_judge_107
def sw_k_X0_takesRow : List Cond := .code yX0_takesRow cX0_takesRow 2 (some .boolean) :: (([.fieldLink RX0 18 "TopTurned$Blind" "told" "LTopTurned$Told;", .fieldLink RX0 30 "TopTurned$Told" "rowCount" "I", .fieldLink RX0 36 "TopTurned$Blind" "rowLength" "I"] : List Cond) ++ (wsX00 ++ (wsX60 ++ (([] : List Cond)))))
theorem gd_k_X0_takesRow : ∀ w ∈ sw_k_X0_takesRow, (w.onTables && w.keeps) = true ∨ ∃ ty, w = .arrayClass ty := List.forall_mem_cons.mpr ⟨good_of_word rfl, List.forall_mem_append.mpr ⟨fun w h => good_of_word (List.all_eq_true.mp (by decide +kernel : (([.fieldLink RX0 18 "TopTurned$Blind" "told" "LTopTurned$Told;", .fieldLink RX0 30 "TopTurned$Told" "rowCount" "I", .fieldLink RX0 36 "TopTurned$Blind" "rowLength" "I"] : List Cond)).all goodWord = true) w h), List.forall_mem_append.mpr ⟨gw_X0, List.forall_mem_append.mpr ⟨gw_X6, fun _ h => absurd h List.not_mem_nil⟩⟩⟩⟩
theorem iw_k_X0_takesRow_X0 : ∀ w ∈ wsX00, w ∈ sw_k_X0_takesRow := fun _ h => List.mem_cons_of_mem _ (List.mem_append_right _ (List.mem_append_left _ h))
theorem iw_k_X0_takesRow_X6 : ∀ w ∈ wsX60, w ∈ sw_k_X0_takesRow := fun _ h => List.mem_cons_of_mem _ (List.mem_append_right _ (List.mem_append_right _ (List.mem_append_left _ h)))
set_option maxHeartbeats 4000000 in
set_option maxRecDepth 100000 in
theorem k_X0_takesRow (l : Launch) (D : va_G) (cC cI cZ : ClassId) (h0 h1 h2 h3 h4 h5 h6 h7 h8 h9 h10 h11 : Nat) (sz : Nat) : Met l yX0_takesRow sw_k_X0_takesRow ({ frames := 2, cells := 0, slots := 0, locals := 100 }) (va_Pc [.ref h0] (kPre D cC cI cZ [(h0, .inr (0, [.ref h1, .ref h2, .ref h3, .ref h4, .int 0, .ref h5, .int 0])), (h1, .inr (6, [.int 0, .ref h6, .ref h7, .int 0, .int 5, .int 9, .int 0, .int 1, .int 0, .int 0, .ref h8, .ref h9, .int 0, .ref h10, .int 0, .ref h11, .int 0]))] sz)) (va_Qi (fun (r : Int32) (_ : Unit) => r = 1) (fun _ t => va_P D vwCl [(h0, .inr (0, [.ref h1, .ref h2, .ref h3, .ref h4, .int 0, .ref h5, .int 0])), (h1, .inr (6, [.int 0, .ref h6, .ref h7, .int 0, .int 5, .int 9, .int 0, .int 1, .int 0, .int 0, .ref h8, .ref h9, .int 0, .ref h10, .int 0, .ref h11, .int 0]))] t.heap ∧ va_D (va_A [(h0, .inr (0, [.ref h1, .ref h2, .ref h3, .ref h4, .int 0, .ref h5, .int 0])), (h1, .inr (6, [.int 0, .ref h6, .ref h7, .int 0, .int 5, .int 9, .int 0, .int 1, .int 0, .int 0, .ref h8, .ref h9, .int 0, .ref h10, .int 0, .ref h11, .int 0]))] sz) [(h0, .inr (0, [.ref h1, .ref h2, .ref h3, .ref h4, .int 0, .ref h5, .int 0])), (h1, .inr (6, [.int 0, .ref h6, .ref h7, .int 0, .int 5, .int 9, .int 0, .int 1, .int 0, .int 0, .ref h8, .ref h9, .int 0, .ref h10, .int 0, .ref h11, .int 0]))]) (va_A [(h0, .inr (0, [.ref h1, .ref h2, .ref h3, .ref h4, .int 0, .ref h5, .int 0])), (h1, .inr (6, [.int 0, .ref h6, .ref h7, .int 0, .int 5, .int 9, .int 0, .int 1, .int 0, .int 0, .ref h8, .ref h9, .int 0, .ref h10, .int 0, .ref h11, .int 0]))] sz)) 0 0 (va_A [(h0, .inr (0, [.ref h1, .ref h2, .ref h3, .ref h4, .int 0, .ref h5, .int 0])), (h1, .inr (6, [.int 0, .ref h6, .ref h7, .int 0, .int 5, .int 9, .int 0, .int 1, .int 0, .int 0, .ref h8, .ref h9, .int 0, .ref h10, .int 0, .ref h11, .int 0]))] sz) := by
  refine Met.ofW (cc := cX0_takesRow) (maxL := 2) (ret := (some .boolean)) (by decide) rfl ?_
  intro p e s m args below meth c s₁ B hml hv
  obtain ⟨rfl, hsz, hP, hK, hD0⟩ := hv
  have hx := B.exec
  have hb := B.bytes
  have hr := B.returns
  have hts := atoms_spec (ws := sw_k_X0_takesRow) B.pre
  have hown : s.vm.findClass RX0 = some m.cls := findClass_of_methodNamed B.named
  have hlocks := B.notSynchronized
  subst hsz
  have hD := hD0.self (sz := s.heap.size)
  generalize hAe : va_A [(h0, .inr (0, [.ref h1, .ref h2, .ref h3, .ref h4, .int 0, .ref h5, .int 0])), (h1, .inr (6, [.int 0, .ref h6, .ref h7, .int 0, .int 5, .int 9, .int 0, .int 1, .int 0, .int 0, .ref h8, .ref h9, .int 0, .ref h10, .int 0, .ref h11, .int 0]))] s.heap.size = A at hD ⊢
  have hA : ∀ q : Nat, s.heap.size ≤ q → A q := fun q h => by rw [← hAe]; exact Or.inr h
  have hS : va_S A s.heap s.heap [] := va_S.rf
  have hl := lv_entry ([.ref h0]) (n := 2) (Nat.le_of_ble_eq_true rfl)
  rw [lg_entry_eq]
  generalize (lg_sl ([.ref h0]) ++ List.replicate (2 - (lg_sl ([.ref h0])).length) Slot.unset).toArray = ls at hl ⊢
  have hl : lv_has ls 2 [(0, .ref h0)] := hl
  refine lv_aload_n hx hb dX0_takesRow_0 rfl (lv_at hl 0 rfl) ?_
  refine lv_aload_n hx hb dX0_takesRow_1 rfl (lv_at hl 0 rfl) ?_
  refine va_get (D := D) (ci := 0) (v := .ref h1) (C := RX0) (T := TX0) (N := 7) hx hb hts iw_k_X0_takesRow_X0 hown hK hP 0 rfl rfl 0 (by decide) (hts (.fieldLink RX0 18 "TopTurned$Blind" "told" "LTopTurned$Told;") (by decide +kernel)) (fun _ h9 => h9) rfl dX0_takesRow_2 ?_
  refine va_get (D := D) (ci := 6) (v := .int 0) (C := RX6) (T := TX6) (N := 17) hx hb hts iw_k_X0_takesRow_X6 hown hK hP 1 rfl rfl 16 (by decide) (hts (.fieldLink RX0 30 "TopTurned$Told" "rowCount" "I") (by decide +kernel)) (fun _ h9 => h9) rfl dX0_takesRow_5 ?_
  refine va_put (D := D) (ci := 0) (v := .int 0) (ty := .int) (C := RX0) (T := TX0) (N := 7) hx hb hts iw_k_X0_takesRow_X0 tyX0 tyX0_ok nmX0 hown hK hP hD hS 0 rfl rfl 6 (by decide) (hts (.fieldLink RX0 36 "TopTurned$Blind" "rowLength" "I") (by decide +kernel)) (fun _ h9 => h9) rfl (by decide +kernel) rfl rfl (Nat.le_of_ble_eq_true rfl) dX0_takesRow_8 (fun H locs hP hD hS => ?_)
  have hP : va_P D vwCl [(h0, .inr (0, [.ref h1, .ref h2, .ref h3, .ref h4, .int 0, .ref h5, .int 0])), (h1, .inr (6, [.int 0, .ref h6, .ref h7, .int 0, .int 5, .int 9, .int 0, .int 1, .int 0, .int 0, .ref h8, .ref h9, .int 0, .ref h10, .int 0, .ref h11, .int 0]))] H := hP
  have hD : va_D A [(h0, .inr (0, [.ref h1, .ref h2, .ref h3, .ref h4, .int 0, .ref h5, .int 0])), (h1, .inr (6, [.int 0, .ref h6, .ref h7, .int 0, .int 5, .int 9, .int 0, .int 1, .int 0, .int 0, .ref h8, .ref h9, .int 0, .ref h10, .int 0, .ref h11, .int 0]))] := hD
  refine lv_iconst (v := 0) hx hb dX0_takesRow_11 (by decide) ?_
  refine lv_istore_n (lv' := [(1, .int 0), (0, .ref h0)]) hx hb dX0_takesRow_12 rfl hl (by decide) rfl (fun ls hl => ?_)
  refine lv_iload_n hx hb dX0_takesRow_13 rfl (lv_at hl 0 rfl) ?_
  refine lv_aload_n hx hb dX0_takesRow_14 rfl (lv_at hl 1 rfl) ?_
  refine va_get (D := D) (ci := 0) (v := .int 0) (C := RX0) (T := TX0) (N := 7) hx hb hts iw_k_X0_takesRow_X0 hown hK hP 0 rfl rfl 6 (by decide) (hts (.fieldLink RX0 36 "TopTurned$Blind" "rowLength" "I") (by decide +kernel)) (fun _ h9 => h9) rfl dX0_takesRow_15 ?_
  refine lv_icmp_ge (tgt := 60) hx hb dX0_takesRow_18 (by decide) (fun _ => ?_) (fun c => absurd (by decide) c)
  refine lv_iconst (v := 1) hx hb dX0_takesRow_60 (by decide) ?_
  refine W.widen (k := 0) (n := 0) (Nat.le_of_ble_eq_true rfl) (Nat.le_of_ble_eq_true rfl) ?_
  have hP9 := hP.sub (ws' := [(h0, .inr (0, [.ref h1, .ref h2, .ref h3, .ref h4, .int 0, .ref h5, .int 0])), (h1, .inr (6, [.int 0, .ref h6, .ref h7, .int 0, .int 5, .int 9, .int 0, .int 1, .int 0, .int 0, .ref h8, .ref h9, .int 0, .ref h10, .int 0, .ref h11, .int 0]))]) [0, 1] rfl
  have hD9 := hD.sub (ws' := [(h0, .inr (0, [.ref h1, .ref h2, .ref h3, .ref h4, .int 0, .ref h5, .int 0])), (h1, .inr (6, [.int 0, .ref h6, .ref h7, .int 0, .int 5, .int 9, .int 0, .int 1, .int 0, .int 0, .ref h8, .ref h9, .int 0, .ref h10, .int 0, .ref h11, .int 0]))]) [0, 1] (by decide) rfl
  exact W.zret (v := 1) hx hb hr rfl (fun t ht hW => ⟨⟨1, (), rfl, rfl, ⟨by rw [ht]; exact hP9, hD9⟩⟩, hS.F ht⟩) hS.2.2 dX0_takesRow_61
def sw_k_X6_burntPlates : List Cond := .code yX6_burntPlates cX6_burntPlates 3 (some .int) :: (([.fieldLink RX6 40 "TopTurned$Told" "plates" "I"] : List Cond) ++ (wsX60 ++ (([] : List Cond))))
theorem gd_k_X6_burntPlates : ∀ w ∈ sw_k_X6_burntPlates, (w.onTables && w.keeps) = true ∨ ∃ ty, w = .arrayClass ty := List.forall_mem_cons.mpr ⟨good_of_word rfl, List.forall_mem_append.mpr ⟨fun w h => good_of_word (List.all_eq_true.mp (by decide +kernel : (([.fieldLink RX6 40 "TopTurned$Told" "plates" "I"] : List Cond)).all goodWord = true) w h), List.forall_mem_append.mpr ⟨gw_X6, fun _ h => absurd h List.not_mem_nil⟩⟩⟩
theorem iw_k_X6_burntPlates_X6 : ∀ w ∈ wsX60, w ∈ sw_k_X6_burntPlates := fun _ h => List.mem_cons_of_mem _ (List.mem_append_right _ (List.mem_append_left _ h))
set_option maxHeartbeats 4000000 in
set_option maxRecDepth 100000 in
theorem k_X6_burntPlates (l : Launch) (D : va_G) (cC cI cZ : ClassId) (h0 h1 h2 h3 h4 h5 h6 : Nat) (sz : Nat) : Met l yX6_burntPlates sw_k_X6_burntPlates ({ frames := 2, cells := 0, slots := 0, locals := 100 }) (va_Pc [.ref h0] (kPre D cC cI cZ [(h0, .inr (6, [.int 0, .ref h1, .ref h2, .int 0, .int 5, .int 9, .int 0, .int 1, .int 0, .int 0, .ref h3, .ref h4, .int 0, .ref h5, .int 0, .ref h6, .int 0]))] sz)) (va_Qi (fun (r : Int32) (_ : Unit) => r = 0) (fun _ _ => True) (fun _ => False)) 0 0 (fun _ => False) := by
  refine Met.ofW (cc := cX6_burntPlates) (maxL := 3) (ret := (some .int)) (by decide) rfl ?_
  intro p e s m args below meth c s₁ B hml hv
  obtain ⟨rfl, hsz, hP, hK, hD0⟩ := hv
  have hx := B.exec
  have hb := B.bytes
  have hr := B.returns
  have hts := atoms_spec (ws := sw_k_X6_burntPlates) B.pre
  have hown : s.vm.findClass RX6 = some m.cls := findClass_of_methodNamed B.named
  have hlocks := B.notSynchronized
  subst hsz
  have hD := hD0
  have hS : va_S (fun _ => False) s.heap s.heap [] := va_S.rf
  have hl := lv_entry ([.ref h0]) (n := 3) (Nat.le_of_ble_eq_true rfl)
  rw [lg_entry_eq]
  generalize (lg_sl ([.ref h0]) ++ List.replicate (3 - (lg_sl ([.ref h0])).length) Slot.unset).toArray = ls at hl ⊢
  have hl : lv_has ls 3 [(0, .ref h0)] := hl
  refine lv_iconst (v := 0) hx hb dX6_burntPlates_0 (by decide) ?_
  refine lv_istore_n (lv' := [(1, .int 0), (0, .ref h0)]) hx hb dX6_burntPlates_1 rfl hl (by decide) rfl (fun ls hl => ?_)
  refine lv_iconst (v := 0) hx hb dX6_burntPlates_2 (by decide) ?_
  refine lv_istore_n (lv' := [(2, .int 0), (1, .int 0), (0, .ref h0)]) hx hb dX6_burntPlates_3 rfl hl (by decide) rfl (fun ls hl => ?_)
  refine lv_iload_n hx hb dX6_burntPlates_4 rfl (lv_at hl 0 rfl) ?_
  refine lv_aload_n hx hb dX6_burntPlates_5 rfl (lv_at hl 2 rfl) ?_
  refine va_get (D := D) (ci := 6) (v := .int 0) (C := RX6) (T := TX6) (N := 17) hx hb hts iw_k_X6_burntPlates_X6 hown hK hP 0 rfl rfl 0 (by decide) (hts (.fieldLink RX6 40 "TopTurned$Told" "plates" "I") (by decide +kernel)) (fun _ h9 => h9) rfl dX6_burntPlates_6 ?_
  refine lv_icmp_ge (tgt := 43) hx hb dX6_burntPlates_9 (by decide) (fun _ => ?_) (fun c => absurd (by decide) c)
  refine lv_iload_n hx hb dX6_burntPlates_43 rfl (lv_at hl 1 rfl) ?_
  exact W.iret (v := 0) hx hb hr (fun t ht hW => ⟨⟨0, (), rfl, rfl, trivial⟩, hS.F ht⟩) hS.2.2 dX6_burntPlates_44
def sw_k_X0_isAllowed : List Cond := .code yX0_isAllowed cX0_isAllowed 3 (some .boolean) :: (([.fieldLink RX0 18 "TopTurned$Blind" "told" "LTopTurned$Told;", .fieldLink RX0 76 "TopTurned$Told" "sightCount" "I"] : List Cond) ++ (wsX00 ++ (wsX60 ++ (([] : List Cond)))))
theorem gd_k_X0_isAllowed : ∀ w ∈ sw_k_X0_isAllowed, (w.onTables && w.keeps) = true ∨ ∃ ty, w = .arrayClass ty := List.forall_mem_cons.mpr ⟨good_of_word rfl, List.forall_mem_append.mpr ⟨fun w h => good_of_word (List.all_eq_true.mp (by decide +kernel : (([.fieldLink RX0 18 "TopTurned$Blind" "told" "LTopTurned$Told;", .fieldLink RX0 76 "TopTurned$Told" "sightCount" "I"] : List Cond)).all goodWord = true) w h), List.forall_mem_append.mpr ⟨gw_X0, List.forall_mem_append.mpr ⟨gw_X6, fun _ h => absurd h List.not_mem_nil⟩⟩⟩⟩
theorem iw_k_X0_isAllowed_X0 : ∀ w ∈ wsX00, w ∈ sw_k_X0_isAllowed := fun _ h => List.mem_cons_of_mem _ (List.mem_append_right _ (List.mem_append_left _ h))
theorem iw_k_X0_isAllowed_X6 : ∀ w ∈ wsX60, w ∈ sw_k_X0_isAllowed := fun _ h => List.mem_cons_of_mem _ (List.mem_append_right _ (List.mem_append_right _ (List.mem_append_left _ h)))
set_option maxHeartbeats 4000000 in
set_option maxRecDepth 100000 in
theorem k_X0_isAllowed (l : Launch) (D : va_G) (cC cI cZ : ClassId) (h0 h1 h2 h3 h4 h5 h6 h7 h8 h9 h10 h11 : Nat) (sz : Nat) : Met l yX0_isAllowed sw_k_X0_isAllowed ({ frames := 2, cells := 0, slots := 0, locals := 100 }) (va_Pc [.ref h0, .int 0] (kPre D cC cI cZ [(h0, .inr (0, [.ref h1, .ref h2, .ref h3, .ref h4, .int 0, .ref h5, .int 0])), (h1, .inr (6, [.int 0, .ref h6, .ref h7, .int 0, .int 5, .int 9, .int 0, .int 1, .int 0, .int 0, .ref h8, .ref h9, .int 0, .ref h10, .int 0, .ref h11, .int 0]))] sz)) (va_Qi (fun (r : Int32) (_ : Unit) => r = 1) (fun _ _ => True) (fun _ => False)) 0 0 (fun _ => False) := by
  refine Met.ofW (cc := cX0_isAllowed) (maxL := 3) (ret := (some .boolean)) (by decide) rfl ?_
  intro p e s m args below meth c s₁ B hml hv
  obtain ⟨rfl, hsz, hP, hK, hD0⟩ := hv
  have hx := B.exec
  have hb := B.bytes
  have hr := B.returns
  have hts := atoms_spec (ws := sw_k_X0_isAllowed) B.pre
  have hown : s.vm.findClass RX0 = some m.cls := findClass_of_methodNamed B.named
  have hlocks := B.notSynchronized
  subst hsz
  have hD := hD0
  have hS : va_S (fun _ => False) s.heap s.heap [] := va_S.rf
  have hl := lv_entry ([.ref h0, .int 0]) (n := 3) (Nat.le_of_ble_eq_true rfl)
  rw [lg_entry_eq]
  generalize (lg_sl ([.ref h0, .int 0]) ++ List.replicate (3 - (lg_sl ([.ref h0, .int 0])).length) Slot.unset).toArray = ls at hl ⊢
  have hl : lv_has ls 3 [(0, .ref h0), (1, .int 0)] := hl
  refine lv_iconst (v := 0) hx hb dX0_isAllowed_0 (by decide) ?_
  refine lv_istore_n (lv' := [(2, .int 0), (0, .ref h0), (1, .int 0)]) hx hb dX0_isAllowed_1 rfl hl (by decide) rfl (fun ls hl => ?_)
  refine lv_iload_n hx hb dX0_isAllowed_2 rfl (lv_at hl 0 rfl) ?_
  refine lv_aload_n hx hb dX0_isAllowed_3 rfl (lv_at hl 1 rfl) ?_
  refine va_get (D := D) (ci := 0) (v := .ref h1) (C := RX0) (T := TX0) (N := 7) hx hb hts iw_k_X0_isAllowed_X0 hown hK hP 0 rfl rfl 0 (by decide) (hts (.fieldLink RX0 18 "TopTurned$Blind" "told" "LTopTurned$Told;") (by decide +kernel)) (fun _ h9 => h9) rfl dX0_isAllowed_4 ?_
  refine va_get (D := D) (ci := 6) (v := .int 0) (C := RX6) (T := TX6) (N := 17) hx hb hts iw_k_X0_isAllowed_X6 hown hK hP 1 rfl rfl 9 (by decide) (hts (.fieldLink RX0 76 "TopTurned$Told" "sightCount" "I") (by decide +kernel)) (fun _ h9 => h9) rfl dX0_isAllowed_7 ?_
  refine lv_icmp_ge (tgt := 52) hx hb dX0_isAllowed_10 (by decide) (fun _ => ?_) (fun c => absurd (by decide) c)
  refine lv_iconst (v := 1) hx hb dX0_isAllowed_52 (by decide) ?_
  exact W.zret (v := 1) hx hb hr rfl (fun t ht hW => ⟨⟨1, (), rfl, rfl, trivial⟩, hS.F ht⟩) hS.2.2 dX0_isAllowed_53
def sw_k_X5_stateWith : List Cond := .code yX5_stateWith cX5_stateWith 5 (some .int) :: (([.fieldLink RX5 40 "TopTurned$Space" "plates" "I"] : List Cond) ++ (wsX50 ++ (([] : List Cond))))
theorem gd_k_X5_stateWith : ∀ w ∈ sw_k_X5_stateWith, (w.onTables && w.keeps) = true ∨ ∃ ty, w = .arrayClass ty := List.forall_mem_cons.mpr ⟨good_of_word rfl, List.forall_mem_append.mpr ⟨fun w h => good_of_word (List.all_eq_true.mp (by decide +kernel : (([.fieldLink RX5 40 "TopTurned$Space" "plates" "I"] : List Cond)).all goodWord = true) w h), List.forall_mem_append.mpr ⟨gw_X5, fun _ h => absurd h List.not_mem_nil⟩⟩⟩
theorem iw_k_X5_stateWith_X5 : ∀ w ∈ wsX50, w ∈ sw_k_X5_stateWith := fun _ h => List.mem_cons_of_mem _ (List.mem_append_right _ (List.mem_append_left _ h))
set_option maxHeartbeats 4000000 in
set_option maxRecDepth 100000 in
theorem k_X5_stateWith (l : Launch) (D : va_G) (cC cI cZ : ClassId) (h0 h1 h2 h3 h4 h5 h6 : Nat) (sz : Nat) : Met l yX5_stateWith sw_k_X5_stateWith ({ frames := 2, cells := 0, slots := 0, locals := 100 }) (va_Pc [.ref h0, .int 0, .int 0] (kPre D cC cI cZ [(h0, .inr (5, [.int 0, .int 1, .int 1, .int 1, .int 0, .ref h1, .ref h2, .ref h3, .ref h4, .ref h5, .ref h6]))] sz)) (va_Qi (fun (r : Int32) (_ : Unit) => r = 0) (fun _ _ => True) (fun _ => False)) 0 0 (fun _ => False) := by
  refine Met.ofW (cc := cX5_stateWith) (maxL := 5) (ret := (some .int)) (by decide) rfl ?_
  intro p e s m args below meth c s₁ B hml hv
  obtain ⟨rfl, hsz, hP, hK, hD0⟩ := hv
  have hx := B.exec
  have hb := B.bytes
  have hr := B.returns
  have hts := atoms_spec (ws := sw_k_X5_stateWith) B.pre
  have hown : s.vm.findClass RX5 = some m.cls := findClass_of_methodNamed B.named
  have hlocks := B.notSynchronized
  subst hsz
  have hD := hD0
  have hS : va_S (fun _ => False) s.heap s.heap [] := va_S.rf
  have hl := lv_entry ([.ref h0, .int 0, .int 0]) (n := 5) (Nat.le_of_ble_eq_true rfl)
  rw [lg_entry_eq]
  generalize (lg_sl ([.ref h0, .int 0, .int 0]) ++ List.replicate (5 - (lg_sl ([.ref h0, .int 0, .int 0])).length) Slot.unset).toArray = ls at hl ⊢
  have hl : lv_has ls 5 [(0, .ref h0), (1, .int 0), (2, .int 0)] := hl
  refine lv_iconst (v := 0) hx hb dX5_stateWith_0 (by decide) ?_
  refine lv_istore_n (lv' := [(3, .int 0), (0, .ref h0), (1, .int 0), (2, .int 0)]) hx hb dX5_stateWith_1 rfl hl (by decide) rfl (fun ls hl => ?_)
  refine lv_iconst (v := 0) hx hb dX5_stateWith_2 (by decide) ?_
  refine lv_istore (lv' := [(4, .int 0), (3, .int 0), (0, .ref h0), (1, .int 0), (2, .int 0)]) hx hb dX5_stateWith_3 hl (by decide) rfl (fun ls hl => ?_)
  refine lv_iload hx hb dX5_stateWith_5 (lv_at hl 0 rfl) ?_
  refine lv_aload_n hx hb dX5_stateWith_7 rfl (lv_at hl 2 rfl) ?_
  refine va_get (D := D) (ci := 5) (v := .int 0) (C := RX5) (T := TX5) (N := 11) hx hb hts iw_k_X5_stateWith_X5 hown hK hP 0 rfl rfl 0 (by decide) (hts (.fieldLink RX5 40 "TopTurned$Space" "plates" "I") (by decide +kernel)) (fun _ h9 => h9) rfl dX5_stateWith_8 ?_
  refine lv_icmp_ge (tgt := 36) hx hb dX5_stateWith_11 (by decide) (fun _ => ?_) (fun c => absurd (by decide) c)
  refine lv_iload_n hx hb dX5_stateWith_36 rfl (lv_at hl 3 rfl) ?_
  refine lv_aload_n hx hb dX5_stateWith_37 rfl (lv_at hl 2 rfl) ?_
  refine va_get (D := D) (ci := 5) (v := .int 0) (C := RX5) (T := TX5) (N := 11) hx hb hts iw_k_X5_stateWith_X5 hown hK hP 0 rfl rfl 0 (by decide) (hts (.fieldLink RX5 40 "TopTurned$Space" "plates" "I") (by decide +kernel)) (fun _ h9 => h9) rfl dX5_stateWith_38 ?_
  refine lv_ishl hx hb dX5_stateWith_41 ?_
  refine kt_eq (y := 0) (by decide +kernel) ?_
  refine lv_iload_n hx hb dX5_stateWith_42 rfl (lv_at hl 1 rfl) ?_
  refine lv_ior hx hb dX5_stateWith_43 ?_
  refine kt_eq (y := 0) (by decide +kernel) ?_
  exact W.iret (v := 0) hx hb hr (fun t ht hW => ⟨⟨0, (), rfl, rfl, trivial⟩, hS.F ht⟩) hS.2.2 dX5_stateWith_44
