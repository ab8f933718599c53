def sw_k_X0_listStarts : List Cond := .code yX0_listStarts cX0_listStarts 3 none :: (([.fieldLink RX0 59 "TopTurned$Blind" "startCount" "I", .fieldLink RX0 18 "TopTurned$Blind" "told" "LTopTurned$Told;", .methodLink RX0 62 yX6_burntPlates, .instanceMethod yX6_burntPlates, .selects RX6 yX6_burntPlates yX6_burntPlates, .initialized RX6, .fieldLink RX0 22 "TopTurned$Blind" "space" "LTopTurned$Space;", .fieldLink RX0 66 "TopTurned$Space" "orders" "I", .methodLink RX0 69 yX0_isAllowed, .instanceMethod yX0_isAllowed, .selects RX0 yX0_isAllowed yX0_isAllowed, .initialized RX0, .fieldLink RX0 9 "TopTurned$Blind" "starts" "[I", .methodLink RX0 72 yX5_stateWith, .instanceMethod yX5_stateWith, .selects RX5 yX5_stateWith yX5_stateWith, .initialized RX5] : List Cond) ++ (wsX00 ++ (sw_k_X6_burntPlates ++ (wsX50 ++ (sw_k_X0_isAllowed ++ (sw_k_X5_stateWith ++ (([] : List Cond))))))))
theorem gd_k_X0_listStarts : ∀ w ∈ sw_k_X0_listStarts, (w.onTables && w.keeps) = true ∨ ∃ ty, w = .arrayClass ty := List.forall_mem_cons.mpr ⟨good_of_word rfl, List.forall_mem_append.mpr ⟨fun w h => good_of_word (List.all_eq_true.mp (by decide +kernel : (([.fieldLink RX0 59 "TopTurned$Blind" "startCount" "I", .fieldLink RX0 18 "TopTurned$Blind" "told" "LTopTurned$Told;", .methodLink RX0 62 yX6_burntPlates, .instanceMethod yX6_burntPlates, .selects RX6 yX6_burntPlates yX6_burntPlates, .initialized RX6, .fieldLink RX0 22 "TopTurned$Blind" "space" "LTopTurned$Space;", .fieldLink RX0 66 "TopTurned$Space" "orders" "I", .methodLink RX0 69 yX0_isAllowed, .instanceMethod yX0_isAllowed, .selects RX0 yX0_isAllowed yX0_isAllowed, .initialized RX0, .fieldLink RX0 9 "TopTurned$Blind" "starts" "[I", .methodLink RX0 72 yX5_stateWith, .instanceMethod yX5_stateWith, .selects RX5 yX5_stateWith yX5_stateWith, .initialized RX5] : List Cond)).all goodWord = true) w h), List.forall_mem_append.mpr ⟨gw_X0, List.forall_mem_append.mpr ⟨gd_k_X6_burntPlates, List.forall_mem_append.mpr ⟨gw_X5, List.forall_mem_append.mpr ⟨gd_k_X0_isAllowed, List.forall_mem_append.mpr ⟨gd_k_X5_stateWith, fun _ h => absurd h List.not_mem_nil⟩⟩⟩⟩⟩⟩⟩
theorem iw_k_X0_listStarts_X0 : ∀ w ∈ wsX00, w ∈ sw_k_X0_listStarts := fun _ h => List.mem_cons_of_mem _ (List.mem_append_right _ (List.mem_append_left _ h))
theorem gc_k_X0_listStarts_k_X6_burntPlates : GoodIn sw_k_X0_listStarts sw_k_X6_burntPlates := fun w h => ⟨List.mem_cons_of_mem _ (List.mem_append_right _ (List.mem_append_right _ (List.mem_append_left _ h))), gd_k_X6_burntPlates w h⟩
theorem iw_k_X0_listStarts_X5 : ∀ w ∈ wsX50, w ∈ sw_k_X0_listStarts := fun _ h => List.mem_cons_of_mem _ (List.mem_append_right _ (List.mem_append_right _ (List.mem_append_right _ (List.mem_append_left _ h))))
theorem gc_k_X0_listStarts_k_X0_isAllowed : GoodIn sw_k_X0_listStarts sw_k_X0_isAllowed := fun w h => ⟨List.mem_cons_of_mem _ (List.mem_append_right _ (List.mem_append_right _ (List.mem_append_right _ (List.mem_append_right _ (List.mem_append_left _ h))))), gd_k_X0_isAllowed w h⟩
theorem gc_k_X0_listStarts_k_X5_stateWith : GoodIn sw_k_X0_listStarts sw_k_X5_stateWith := fun w h => ⟨List.mem_cons_of_mem _ (List.mem_append_right _ (List.mem_append_right _ (List.mem_append_right _ (List.mem_append_right _ (List.mem_append_right _ (List.mem_append_left _ h)))))), gd_k_X5_stateWith w h⟩
set_option maxHeartbeats 4000000 in
set_option maxRecDepth 100000 in
theorem k_X0_listStarts (l : Launch) (D : va_G) (cC cI cZ : ClassId) (h0 h1 h2 h3 h4 h5 h6 h7 h8 h9 h10 h11 h12 h13 h14 h15 h16 h17 : Nat) (sz : Nat) : Met l yX0_listStarts sw_k_X0_listStarts ({ frames := 4, cells := 0, slots := 0, locals := 200 }) (va_Pc [.ref h0] (kPre D cC cI cZ [(h0, .inr (0, [.ref h1, .ref h2, .ref h4, .ref h3, .int 0, .ref h5, .int 0])), (h1, .inr (6, [.int 0, .ref h6, .ref h7, .int 0, .int 5, .int 9, .int 0, .int 1, .int 0, .int 0, .ref h8, .ref h9, .int 0, .ref h10, .int 0, .ref h11, .int 0])), (h2, .inr (5, [.int 0, .int 1, .int 1, .int 1, .int 0, .ref h12, .ref h13, .ref h14, .ref h15, .ref h16, .ref h17])), (h3, .inl (cI, 120, .inl (fun _ => 0)))] sz)) (va_Qv (fun (_ : Unit) => True) (fun _ t => va_P D vwCl [(h0, .inr (0, [.ref h1, .ref h2, .ref h4, .ref h3, .int 1, .ref h5, .int 0])), (h1, .inr (6, [.int 0, .ref h6, .ref h7, .int 0, .int 5, .int 9, .int 0, .int 1, .int 0, .int 0, .ref h8, .ref h9, .int 0, .ref h10, .int 0, .ref h11, .int 0])), (h2, .inr (5, [.int 0, .int 1, .int 1, .int 1, .int 0, .ref h12, .ref h13, .ref h14, .ref h15, .ref h16, .ref h17])), (h3, .inl (cI, 120, .inl (fun _ => 0)))] t.heap ∧ va_D (va_A [(h0, .inr (0, [.ref h1, .ref h2, .ref h4, .ref h3, .int 0, .ref h5, .int 0])), (h1, .inr (6, [.int 0, .ref h6, .ref h7, .int 0, .int 5, .int 9, .int 0, .int 1, .int 0, .int 0, .ref h8, .ref h9, .int 0, .ref h10, .int 0, .ref h11, .int 0])), (h2, .inr (5, [.int 0, .int 1, .int 1, .int 1, .int 0, .ref h12, .ref h13, .ref h14, .ref h15, .ref h16, .ref h17])), (h3, .inl (cI, 120, .inl (fun _ => 0)))] sz) [(h0, .inr (0, [.ref h1, .ref h2, .ref h4, .ref h3, .int 1, .ref h5, .int 0])), (h1, .inr (6, [.int 0, .ref h6, .ref h7, .int 0, .int 5, .int 9, .int 0, .int 1, .int 0, .int 0, .ref h8, .ref h9, .int 0, .ref h10, .int 0, .ref h11, .int 0])), (h2, .inr (5, [.int 0, .int 1, .int 1, .int 1, .int 0, .ref h12, .ref h13, .ref h14, .ref h15, .ref h16, .ref h17])), (h3, .inl (cI, 120, .inl (fun _ => 0)))]) (va_A [(h0, .inr (0, [.ref h1, .ref h2, .ref h4, .ref h3, .int 0, .ref h5, .int 0])), (h1, .inr (6, [.int 0, .ref h6, .ref h7, .int 0, .int 5, .int 9, .int 0, .int 1, .int 0, .int 0, .ref h8, .ref h9, .int 0, .ref h10, .int 0, .ref h11, .int 0])), (h2, .inr (5, [.int 0, .int 1, .int 1, .int 1, .int 0, .ref h12, .ref h13, .ref h14, .ref h15, .ref h16, .ref h17])), (h3, .inl (cI, 120, .inl (fun _ => 0)))] sz)) 0 0 (va_A [(h0, .inr (0, [.ref h1, .ref h2, .ref h4, .ref h3, .int 0, .ref h5, .int 0])), (h1, .inr (6, [.int 0, .ref h6, .ref h7, .int 0, .int 5, .int 9, .int 0, .int 1, .int 0, .int 0, .ref h8, .ref h9, .int 0, .ref h10, .int 0, .ref h11, .int 0])), (h2, .inr (5, [.int 0, .int 1, .int 1, .int 1, .int 0, .ref h12, .ref h13, .ref h14, .ref h15, .ref h16, .ref h17])), (h3, .inl (cI, 120, .inl (fun _ => 0)))] sz) := by
  refine Met.ofW (cc := cX0_listStarts) (maxL := 3) (ret := none) (by decide) rfl ?_
  intro p e s m args below meth c s₁ B hml hv
  obtain ⟨rfl, hsz, hP, hK, hD0⟩ := hv
  have hx := B.exec
  have hb := B.bytes
  have hr := B.returns
  have hts := atoms_spec (ws := sw_k_X0_listStarts) B.pre
  have hown : s.vm.findClass RX0 = some m.cls := findClass_of_methodNamed B.named
  have hlocks := B.notSynchronized
  subst hsz
  have hD := hD0.self (sz := s.heap.size)
  generalize hAe : va_A [(h0, .inr (0, [.ref h1, .ref h2, .ref h4, .ref h3, .int 0, .ref h5, .int 0])), (h1, .inr (6, [.int 0, .ref h6, .ref h7, .int 0, .int 5, .int 9, .int 0, .int 1, .int 0, .int 0, .ref h8, .ref h9, .int 0, .ref h10, .int 0, .ref h11, .int 0])), (h2, .inr (5, [.int 0, .int 1, .int 1, .int 1, .int 0, .ref h12, .ref h13, .ref h14, .ref h15, .ref h16, .ref h17])), (h3, .inl (cI, 120, .inl (fun _ => 0)))] s.heap.size = A at hD ⊢
  have hA : ∀ q : Nat, s.heap.size ≤ q → A q := fun q h => by rw [← hAe]; exact Or.inr h
  have hS : va_S A s.heap s.heap [] := va_S.rf
  have hl := lv_entry ([.ref h0]) (n := 3) (Nat.le_of_ble_eq_true rfl)
  rw [lg_entry_eq]
  generalize (lg_sl ([.ref h0]) ++ List.replicate (3 - (lg_sl ([.ref h0])).length) Slot.unset).toArray = ls at hl ⊢
  have hl : lv_has ls 3 [(0, .ref h0)] := hl
  refine lv_aload_n hx hb dX0_listStarts_0 rfl (lv_at hl 0 rfl) ?_
  refine lv_iconst (v := 0) hx hb dX0_listStarts_1 (by decide) ?_
  refine va_put (D := D) (ci := 0) (v := .int 0) (ty := .int) (C := RX0) (T := TX0) (N := 7) hx hb hts iw_k_X0_listStarts_X0 tyX0 tyX0_ok nmX0 hown hK hP hD hS 0 rfl rfl 4 (by decide) (hts (.fieldLink RX0 59 "TopTurned$Blind" "startCount" "I") (by decide +kernel)) (fun _ h9 => h9) rfl (by decide +kernel) rfl rfl (Nat.le_of_ble_eq_true rfl) dX0_listStarts_2 (fun H locs hP hD hS => ?_)
  have hP : va_P D vwCl [(h0, .inr (0, [.ref h1, .ref h2, .ref h4, .ref h3, .int 0, .ref h5, .int 0])), (h1, .inr (6, [.int 0, .ref h6, .ref h7, .int 0, .int 5, .int 9, .int 0, .int 1, .int 0, .int 0, .ref h8, .ref h9, .int 0, .ref h10, .int 0, .ref h11, .int 0])), (h2, .inr (5, [.int 0, .int 1, .int 1, .int 1, .int 0, .ref h12, .ref h13, .ref h14, .ref h15, .ref h16, .ref h17])), (h3, .inl (cI, 120, .inl (fun _ => 0)))] H := hP
  have hD : va_D A [(h0, .inr (0, [.ref h1, .ref h2, .ref h4, .ref h3, .int 0, .ref h5, .int 0])), (h1, .inr (6, [.int 0, .ref h6, .ref h7, .int 0, .int 5, .int 9, .int 0, .int 1, .int 0, .int 0, .ref h8, .ref h9, .int 0, .ref h10, .int 0, .ref h11, .int 0])), (h2, .inr (5, [.int 0, .int 1, .int 1, .int 1, .int 0, .ref h12, .ref h13, .ref h14, .ref h15, .ref h16, .ref h17])), (h3, .inl (cI, 120, .inl (fun _ => 0)))] := hD
  refine lv_aload_n hx hb dX0_listStarts_5 rfl (lv_at hl 0 rfl) ?_
  refine va_get (D := D) (ci := 0) (v := .ref h1) (C := RX0) (T := TX0) (N := 7) hx hb hts iw_k_X0_listStarts_X0 hown hK hP 0 rfl rfl 0 (by decide) (hts (.fieldLink RX0 18 "TopTurned$Blind" "told" "LTopTurned$Told;") (by decide +kernel)) (fun _ h9 => h9) rfl dX0_listStarts_6 ?_
  have hPc := hP.sub (ws' := [(h1, .inr (6, [.int 0, .ref h6, .ref h7, .int 0, .int 5, .int 9, .int 0, .int 1, .int 0, .int 0, .ref h8, .ref h9, .int 0, .ref h10, .int 0, .ref h11, .int 0]))]) [1] rfl
  have hDc := hD.sub (ws' := [(h1, .inr (6, [.int 0, .ref h6, .ref h7, .int 0, .int 5, .int 9, .int 0, .int 1, .int 0, .int 0, .ref h8, .ref h9, .int 0, .ref h10, .int 0, .ref h11, .int 0]))]) [1] (by decide) rfl
  refine va_calli (va_runV (As := []) (rest := []) ⟨hx, hb, hml, hown, hts⟩ (k_X6_burntPlates l D cC cI cZ h1 h6 h7 h8 h9 h10 h11 H.size ) (cwV (C := RX6) 0 hts (goodIn_app (goodIn_of _ (by decide +kernel)) gc_k_X0_listStarts_k_X6_burntPlates) rfl rfl rfl (by decide +kernel) ⟨(Nat.le_of_ble_eq_true rfl), (Nat.le_of_ble_eq_true rfl)⟩) (kPreV hK hPc hDc (va_recv hK hPc (ci := 6) (q0 := 0) rfl rfl)) rfl rfl hl.1 rfl (lv_room (Nat.le_of_ble_eq_true rfl)) dX0_listStarts_9 ⟨(Nat.le_of_ble_eq_true rfl), (Nat.le_of_ble_eq_true rfl)⟩) hS (fun q _ h => False.elim h) (fun q h => False.elim h) (fun r1 u t H1 locs ht hvm hw hB hz1 hk1 hS => ?_)
  have hP := hP.kept (H1 := H1) (fun k q hk => hk1 q.1 (hP k q hk).lt (fun h => h))
  generalize H1 = H at hP hS ⊢
  have hw : r1 = 0 := hw
  subst hw
  refine lv_istore_n (lv' := [(1, .int 0), (0, .ref h0)]) hx hb dX0_listStarts_12 rfl hl (by decide) rfl (fun ls hl => ?_)
  refine lv_iconst (v := 0) hx hb dX0_listStarts_13 (by decide) ?_
  refine lv_istore_n (lv' := [(2, .int 0), (1, .int 0), (0, .ref h0)]) hx hb dX0_listStarts_14 rfl hl (by decide) rfl (fun ls hl => ?_)
  refine lv_iload_n hx hb dX0_listStarts_15 rfl (lv_at hl 0 rfl) ?_
  refine lv_aload_n hx hb dX0_listStarts_16 rfl (lv_at hl 2 rfl) ?_
  refine va_get (D := D) (ci := 0) (v := .ref h2) (C := RX0) (T := TX0) (N := 7) hx hb hts iw_k_X0_listStarts_X0 hown hK hP 0 rfl rfl 1 (by decide) (hts (.fieldLink RX0 22 "TopTurned$Blind" "space" "LTopTurned$Space;") (by decide +kernel)) (fun _ h9 => h9) rfl dX0_listStarts_17 ?_
  refine va_get (D := D) (ci := 5) (v := .int 1) (C := RX5) (T := TX5) (N := 11) hx hb hts iw_k_X0_listStarts_X5 hown hK hP 2 rfl rfl 1 (by decide) (hts (.fieldLink RX0 66 "TopTurned$Space" "orders" "I") (by decide +kernel)) (fun _ h9 => h9) rfl dX0_listStarts_20 ?_
  refine lv_icmp_ge (tgt := 68) hx hb dX0_listStarts_23 (by decide) (fun c => absurd c (by decide)) (fun _ => ?_)
  refine lv_aload_n hx hb dX0_listStarts_26 rfl (lv_at hl 2 rfl) ?_
  refine lv_iload_n hx hb dX0_listStarts_27 rfl (lv_at hl 0 rfl) ?_
  have hPc := hP.sub (ws' := [(h0, .inr (0, [.ref h1, .ref h2, .ref h4, .ref h3, .int 0, .ref h5, .int 0])), (h1, .inr (6, [.int 0, .ref h6, .ref h7, .int 0, .int 5, .int 9, .int 0, .int 1, .int 0, .int 0, .ref h8, .ref h9, .int 0, .ref h10, .int 0, .ref h11, .int 0]))]) [0, 1] rfl
  have hDc := hD.sub (ws' := [(h0, .inr (0, [.ref h1, .ref h2, .ref h4, .ref h3, .int 0, .ref h5, .int 0])), (h1, .inr (6, [.int 0, .ref h6, .ref h7, .int 0, .int 5, .int 9, .int 0, .int 1, .int 0, .int 0, .ref h8, .ref h9, .int 0, .ref h10, .int 0, .ref h11, .int 0]))]) [0, 1] (by decide) rfl
  refine va_calli (va_runV (As := [.int 0]) (rest := []) ⟨hx, hb, hml, hown, hts⟩ (k_X0_isAllowed l D cC cI cZ h0 h1 h2 h4 h3 h5 h6 h7 h8 h9 h10 h11 H.size ) (cwV (C := RX0) 1 hts (goodIn_app (goodIn_of _ (by decide +kernel)) gc_k_X0_listStarts_k_X0_isAllowed) rfl rfl rfl (by decide +kernel) ⟨(Nat.le_of_ble_eq_true rfl), (Nat.le_of_ble_eq_true rfl)⟩) (kPreV hK hPc hDc (va_recv hK hPc (ci := 0) (q0 := 0) rfl rfl)) rfl rfl hl.1 rfl (lv_room (Nat.le_of_ble_eq_true rfl)) dX0_listStarts_28 ⟨(Nat.le_of_ble_eq_true rfl), (Nat.le_of_ble_eq_true rfl)⟩) hS (fun q _ h => False.elim h) (fun q h => False.elim h) (fun r2 u t H1 locs ht hvm hw hB hz1 hk1 hS => ?_)
  have hP := hP.kept (H1 := H1) (fun k q hk => hk1 q.1 (hP k q hk).lt (fun h => h))
  generalize H1 = H at hP hS ⊢
  have hw : r2 = 1 := hw
  subst hw
  refine lv_if_eq (tgt := 62) hx hb dX0_listStarts_31 (by decide) (fun c => absurd c (by decide)) (fun _ => ?_)
  refine lv_aload_n hx hb dX0_listStarts_34 rfl (lv_at hl 2 rfl) ?_
  refine va_get (D := D) (ci := 0) (v := .ref h3) (C := RX0) (T := TX0) (N := 7) hx hb hts iw_k_X0_listStarts_X0 hown hK hP 0 rfl rfl 3 (by decide) (hts (.fieldLink RX0 9 "TopTurned$Blind" "starts" "[I") (by decide +kernel)) (fun _ h9 => h9) rfl dX0_listStarts_35 ?_
  refine lv_aload_n hx hb dX0_listStarts_38 rfl (lv_at hl 2 rfl) ?_
  refine va_get (D := D) (ci := 0) (v := .int 0) (C := RX0) (T := TX0) (N := 7) hx hb hts iw_k_X0_listStarts_X0 hown hK hP 0 rfl rfl 4 (by decide) (hts (.fieldLink RX0 59 "TopTurned$Blind" "startCount" "I") (by decide +kernel)) (fun _ h9 => h9) rfl dX0_listStarts_39 ?_
  refine lv_aload_n hx hb dX0_listStarts_42 rfl (lv_at hl 2 rfl) ?_
  refine va_get (D := D) (ci := 0) (v := .ref h2) (C := RX0) (T := TX0) (N := 7) hx hb hts iw_k_X0_listStarts_X0 hown hK hP 0 rfl rfl 1 (by decide) (hts (.fieldLink RX0 22 "TopTurned$Blind" "space" "LTopTurned$Space;") (by decide +kernel)) (fun _ h9 => h9) rfl dX0_listStarts_43 ?_
  refine lv_iload_n hx hb dX0_listStarts_46 rfl (lv_at hl 0 rfl) ?_
  refine lv_iload_n hx hb dX0_listStarts_47 rfl (lv_at hl 1 rfl) ?_
  have hPc := hP.sub (ws' := [(h2, .inr (5, [.int 0, .int 1, .int 1, .int 1, .int 0, .ref h12, .ref h13, .ref h14, .ref h15, .ref h16, .ref h17]))]) [2] rfl
  have hDc := hD.sub (ws' := [(h2, .inr (5, [.int 0, .int 1, .int 1, .int 1, .int 0, .ref h12, .ref h13, .ref h14, .ref h15, .ref h16, .ref h17]))]) [2] (by decide) rfl
  refine va_calli (va_runV (As := [.int 0, .int 0]) (rest := [.int 0, .ref h3]) ⟨hx, hb, hml, hown, hts⟩ (k_X5_stateWith l D cC cI cZ h2 h12 h13 h14 h15 h16 h17 H.size ) (cwV (C := RX5) 2 hts (goodIn_app (goodIn_of _ (by decide +kernel)) gc_k_X0_listStarts_k_X5_stateWith) rfl rfl rfl (by decide +kernel) ⟨(Nat.le_of_ble_eq_true rfl), (Nat.le_of_ble_eq_true rfl)⟩) (kPreV hK hPc hDc (va_recv hK hPc (ci := 5) (q0 := 0) rfl rfl)) rfl rfl hl.1 rfl (lv_room (Nat.le_of_ble_eq_true rfl)) dX0_listStarts_48 ⟨(Nat.le_of_ble_eq_true rfl), (Nat.le_of_ble_eq_true rfl)⟩) hS (fun q _ h => False.elim h) (fun q h => False.elim h) (fun r3 u t H1 locs ht hvm hw hB hz1 hk1 hS => ?_)
  have hP := hP.kept (H1 := H1) (fun k q hk => hk1 q.1 (hP k q hk).lt (fun h => h))
  generalize H1 = H at hP hS ⊢
  have hw : r3 = 0 := hw
  subst hw
  refine kn_iastS (i := 0) (x := 0) hx hb hK hP hD hS 3 1 rfl rfl (vp_in_iff.mpr (by decide)) (by decide +kernel) dX0_listStarts_51 (fun H locs hP hD hS => ?_)
  refine lv_aload_n hx hb dX0_listStarts_52 rfl (lv_at hl 2 rfl) ?_
  refine lv_dup hx hb dX0_listStarts_53 rfl ?_
  refine va_get (D := D) (ci := 0) (v := .int 0) (C := RX0) (T := TX0) (N := 7) hx hb hts iw_k_X0_listStarts_X0 hown hK hP 0 rfl rfl 4 (by decide) (hts (.fieldLink RX0 59 "TopTurned$Blind" "startCount" "I") (by decide +kernel)) (fun _ h9 => h9) rfl dX0_listStarts_54 ?_
  refine lv_iconst (v := 1) hx hb dX0_listStarts_57 (by decide) ?_
  refine lv_iadd hx hb dX0_listStarts_58 ?_
  refine kt_eq (y := 1) (by decide +kernel) ?_
  refine va_put (D := D) (ci := 0) (v := .int 1) (ty := .int) (C := RX0) (T := TX0) (N := 7) hx hb hts iw_k_X0_listStarts_X0 tyX0 tyX0_ok nmX0 hown hK hP hD hS 0 rfl rfl 4 (by decide) (hts (.fieldLink RX0 59 "TopTurned$Blind" "startCount" "I") (by decide +kernel)) (fun _ h9 => h9) rfl (by decide +kernel) rfl rfl (Nat.le_of_ble_eq_true rfl) dX0_listStarts_59 (fun H locs hP hD hS => ?_)
  have hP : va_P D vwCl [(h0, .inr (0, [.ref h1, .ref h2, .ref h4, .ref h3, .int 1, .ref h5, .int 0])), (h1, .inr (6, [.int 0, .ref h6, .ref h7, .int 0, .int 5, .int 9, .int 0, .int 1, .int 0, .int 0, .ref h8, .ref h9, .int 0, .ref h10, .int 0, .ref h11, .int 0])), (h2, .inr (5, [.int 0, .int 1, .int 1, .int 1, .int 0, .ref h12, .ref h13, .ref h14, .ref h15, .ref h16, .ref h17])), (h3, .inl (cI, 120, .inl (fun _ => 0)))] H := hP
  have hD : va_D A [(h0, .inr (0, [.ref h1, .ref h2, .ref h4, .ref h3, .int 1, .ref h5, .int 0])), (h1, .inr (6, [.int 0, .ref h6, .ref h7, .int 0, .int 5, .int 9, .int 0, .int 1, .int 0, .int 0, .ref h8, .ref h9, .int 0, .ref h10, .int 0, .ref h11, .int 0])), (h2, .inr (5, [.int 0, .int 1, .int 1, .int 1, .int 0, .ref h12, .ref h13, .ref h14, .ref h15, .ref h16, .ref h17])), (h3, .inl (cI, 120, .inl (fun _ => 0)))] := hD
  refine lv_iinc (v := 1) (lv' := [(2, .int 1), (1, .int 0), (0, .ref h0)]) hx hb dX0_listStarts_62 hl (k := 0) rfl (by decide) (by decide) rfl (fun ls hl => ?_)
  refine lv_goto (tgt := 15) hx hb dX0_listStarts_65 (by decide) ?_
  refine lv_iload_n hx hb dX0_listStarts_15 rfl (lv_at hl 0 rfl) ?_
  refine lv_aload_n hx hb dX0_listStarts_16 rfl (lv_at hl 2 rfl) ?_
  refine va_get (D := D) (ci := 0) (v := .ref h2) (C := RX0) (T := TX0) (N := 7) hx hb hts iw_k_X0_listStarts_X0 hown hK hP 0 rfl rfl 1 (by decide) (hts (.fieldLink RX0 22 "TopTurned$Blind" "space" "LTopTurned$Space;") (by decide +kernel)) (fun _ h9 => h9) rfl dX0_listStarts_17 ?_
  refine va_get (D := D) (ci := 5) (v := .int 1) (C := RX5) (T := TX5) (N := 11) hx hb hts iw_k_X0_listStarts_X5 hown hK hP 2 rfl rfl 1 (by decide) (hts (.fieldLink RX0 66 "TopTurned$Space" "orders" "I") (by decide +kernel)) (fun _ h9 => h9) rfl dX0_listStarts_20 ?_
  refine lv_icmp_ge (tgt := 68) hx hb dX0_listStarts_23 (by decide) (fun _ => ?_) (fun c => absurd (by decide) c)
  refine W.widen (k := 0) (n := 0) (Nat.le_of_ble_eq_true rfl) (Nat.le_of_ble_eq_true rfl) ?_
  have hP9 := hP.sub (ws' := [(h0, .inr (0, [.ref h1, .ref h2, .ref h4, .ref h3, .int 1, .ref h5, .int 0])), (h1, .inr (6, [.int 0, .ref h6, .ref h7, .int 0, .int 5, .int 9, .int 0, .int 1, .int 0, .int 0, .ref h8, .ref h9, .int 0, .ref h10, .int 0, .ref h11, .int 0])), (h2, .inr (5, [.int 0, .int 1, .int 1, .int 1, .int 0, .ref h12, .ref h13, .ref h14, .ref h15, .ref h16, .ref h17])), (h3, .inl (cI, 120, .inl (fun _ => 0)))]) [0, 1, 2, 3] rfl
  have hD9 := hD.sub (ws' := [(h0, .inr (0, [.ref h1, .ref h2, .ref h4, .ref h3, .int 1, .ref h5, .int 0])), (h1, .inr (6, [.int 0, .ref h6, .ref h7, .int 0, .int 5, .int 9, .int 0, .int 1, .int 0, .int 0, .ref h8, .ref h9, .int 0, .ref h10, .int 0, .ref h11, .int 0])), (h2, .inr (5, [.int 0, .int 1, .int 1, .int 1, .int 0, .ref h12, .ref h13, .ref h14, .ref h15, .ref h16, .ref h17])), (h3, .inl (cI, 120, .inl (fun _ => 0)))]) [0, 1, 2, 3] (by decide) rfl
  exact W.vret hx hb hr (fun t ht hW => ⟨⟨(), rfl, trivial, ⟨by rw [ht]; exact hP9, hD9⟩⟩, hS.F ht⟩) hS.2.2 dX0_listStarts_68
def sw_k_X0_arranges : List Cond := .code yX0_arranges cX0_arranges 4 (some .boolean) :: (([.fieldLink RX0 36 "TopTurned$Blind" "rowLength" "I", .fieldLink RX0 26 "TopTurned$Blind" "rules" "LTopTurned$Rules;", .methodLink RX0 116 yX3_arranged, .instanceMethod yX3_arranged, .selects RX3 yX3_arranged yX3_arranged, .initialized RX3] : List Cond) ++ (wsX00 ++ (sw_k_X3_arranged ++ (([] : List Cond)))))
theorem gd_k_X0_arranges : ∀ w ∈ sw_k_X0_arranges, (w.onTables && w.keeps) = true ∨ ∃ ty, w = .arrayClass ty := List.forall_mem_cons.mpr ⟨good_of_word rfl, List.forall_mem_append.mpr ⟨fun w h => good_of_word (List.all_eq_true.mp (by decide +kernel : (([.fieldLink RX0 36 "TopTurned$Blind" "rowLength" "I", .fieldLink RX0 26 "TopTurned$Blind" "rules" "LTopTurned$Rules;", .methodLink RX0 116 yX3_arranged, .instanceMethod yX3_arranged, .selects RX3 yX3_arranged yX3_arranged, .initialized RX3] : List Cond)).all goodWord = true) w h), List.forall_mem_append.mpr ⟨gw_X0, List.forall_mem_append.mpr ⟨gd_k_X3_arranged, fun _ h => absurd h List.not_mem_nil⟩⟩⟩⟩
theorem iw_k_X0_arranges_X0 : ∀ w ∈ wsX00, w ∈ sw_k_X0_arranges := fun _ h => List.mem_cons_of_mem _ (List.mem_append_right _ (List.mem_append_left _ h))
theorem gc_k_X0_arranges_k_X3_arranged : GoodIn sw_k_X0_arranges sw_k_X3_arranged := fun w h => ⟨List.mem_cons_of_mem _ (List.mem_append_right _ (List.mem_append_right _ (List.mem_append_left _ h))), gd_k_X3_arranged w h⟩
set_option maxHeartbeats 4000000 in
set_option maxRecDepth 100000 in
theorem k_X0_arranges (l : Launch) (D : va_G) (cC cI cZ : ClassId) (h0 h1 h2 h3 h4 h5 h6 h7 h8 h9 h10 h11 h12 h13 h14 : Nat) (sz : Nat) : Met l yX0_arranges sw_k_X0_arranges ({ frames := 4, cells := 0, slots := 0, locals := 200 }) (va_Pc [.ref h0, .int 0] (kPre D cC cI cZ [(h0, .inr (0, [.ref h4, .ref h2, .ref h1, .ref h5, .int 1, .ref h6, .int 0])), (h1, .inr (3, [.ref h4, .ref h2, .ref h7, .ref h3, .ref h8, .int 0])), (h2, .inr (5, [.int 0, .int 1, .int 1, .int 1, .int 0, .ref h9, .ref h10, .ref h11, .ref h12, .ref h13, .ref h14])), (h3, .inl (cZ, 120, .inl (upd (fun _ => 0) (Int32.toNatClampNeg 0) (vp_nar .boolean 1))))] sz)) (va_Qi (fun (r : Int32) (_ : Unit) => r = 1) (fun _ _ => True) (fun _ => False)) 0 0 (fun _ => False) := by
  refine Met.ofW (cc := cX0_arranges) (maxL := 4) (ret := (some .boolean)) (by decide) rfl ?_
  intro p e s m args below meth c s₁ B hml hv
  obtain ⟨rfl, hsz, hP, hK, hD0⟩ := hv
  have hx := B.exec
  have hb := B.bytes
  have hr := B.returns
  have hts := atoms_spec (ws := sw_k_X0_arranges) B.pre
  have hown : s.vm.findClass RX0 = some m.cls := findClass_of_methodNamed B.named
  have hlocks := B.notSynchronized
  subst hsz
  have hD := hD0
  have hS : va_S (fun _ => False) s.heap s.heap [] := va_S.rf
  have hl := lv_entry ([.ref h0, .int 0]) (n := 4) (Nat.le_of_ble_eq_true rfl)
  rw [lg_entry_eq]
  generalize (lg_sl ([.ref h0, .int 0]) ++ List.replicate (4 - (lg_sl ([.ref h0, .int 0])).length) Slot.unset).toArray = ls at hl ⊢
  have hl : lv_has ls 4 [(0, .ref h0), (1, .int 0)] := hl
  refine lv_iload_n hx hb dX0_arranges_0 rfl (lv_at hl 1 rfl) ?_
  refine lv_istore_n (lv' := [(2, .int 0), (0, .ref h0), (1, .int 0)]) hx hb dX0_arranges_1 rfl hl (by decide) rfl (fun ls hl => ?_)
  refine lv_iconst (v := 0) hx hb dX0_arranges_2 (by decide) ?_
  refine lv_istore_n (lv' := [(3, .int 0), (2, .int 0), (0, .ref h0), (1, .int 0)]) hx hb dX0_arranges_3 rfl hl (by decide) rfl (fun ls hl => ?_)
  refine lv_iload_n hx hb dX0_arranges_4 rfl (lv_at hl 0 rfl) ?_
  refine lv_aload_n hx hb dX0_arranges_5 rfl (lv_at hl 2 rfl) ?_
  refine va_get (D := D) (ci := 0) (v := .int 0) (C := RX0) (T := TX0) (N := 7) hx hb hts iw_k_X0_arranges_X0 hown hK hP 0 rfl rfl 6 (by decide) (hts (.fieldLink RX0 36 "TopTurned$Blind" "rowLength" "I") (by decide +kernel)) (fun _ h9 => h9) rfl dX0_arranges_6 ?_
  refine lv_icmp_ge (tgt := 59) hx hb dX0_arranges_9 (by decide) (fun _ => ?_) (fun c => absurd (by decide) c)
  refine lv_aload_n hx hb dX0_arranges_59 rfl (lv_at hl 2 rfl) ?_
  refine va_get (D := D) (ci := 0) (v := .ref h1) (C := RX0) (T := TX0) (N := 7) hx hb hts iw_k_X0_arranges_X0 hown hK hP 0 rfl rfl 2 (by decide) (hts (.fieldLink RX0 26 "TopTurned$Blind" "rules" "LTopTurned$Rules;") (by decide +kernel)) (fun _ h9 => h9) rfl dX0_arranges_60 ?_
  refine lv_iload_n hx hb dX0_arranges_63 rfl (lv_at hl 1 rfl) ?_
  have hPc := hP.sub (ws' := [(h1, .inr (3, [.ref h4, .ref h2, .ref h7, .ref h3, .ref h8, .int 0])), (h2, .inr (5, [.int 0, .int 1, .int 1, .int 1, .int 0, .ref h9, .ref h10, .ref h11, .ref h12, .ref h13, .ref h14])), (h3, .inl (cZ, 120, .inl (upd (fun _ => 0) (Int32.toNatClampNeg 0) (vp_nar .boolean 1))))]) [1, 2, 3] rfl
  have hDc := hD.sub (ws' := [(h1, .inr (3, [.ref h4, .ref h2, .ref h7, .ref h3, .ref h8, .int 0])), (h2, .inr (5, [.int 0, .int 1, .int 1, .int 1, .int 0, .ref h9, .ref h10, .ref h11, .ref h12, .ref h13, .ref h14])), (h3, .inl (cZ, 120, .inl (upd (fun _ => 0) (Int32.toNatClampNeg 0) (vp_nar .boolean 1))))]) [1, 2, 3] (by decide) rfl
  refine va_calli (va_runV (As := [.int 0]) (rest := []) ⟨hx, hb, hml, hown, hts⟩ (k_X3_arranged l D cC cI cZ h1 h2 h3 h4 h7 h8 h9 h10 h11 h12 h13 h14 s.heap.size ) (cwV (C := RX3) 1 hts (goodIn_app (goodIn_of _ (by decide +kernel)) gc_k_X0_arranges_k_X3_arranged) rfl rfl rfl (by decide +kernel) ⟨(Nat.le_of_ble_eq_true rfl), (Nat.le_of_ble_eq_true rfl)⟩) (kPreV hK hPc hDc (va_recv hK hPc (ci := 3) (q0 := 0) rfl rfl)) rfl rfl hl.1 rfl (lv_room (Nat.le_of_ble_eq_true rfl)) dX0_arranges_64 ⟨(Nat.le_of_ble_eq_true rfl), (Nat.le_of_ble_eq_true rfl)⟩) hS (fun q _ h => False.elim h) (fun q h => False.elim h) (fun r1 u t H1 locs ht hvm hw hB hz1 hk1 hS => ?_)
  have hP := hP.kept (H1 := H1) (fun k q hk => hk1 q.1 (hP k q hk).lt (fun h => h))
  generalize H1 = H at hP hS ⊢
  have hw : r1 = 1 := hw
  subst hw
  exact W.zret (v := 1) hx hb hr rfl (fun t ht hW => ⟨⟨1, (), rfl, rfl, trivial⟩, hS.F ht⟩) hS.2.2 dX0_arranges_67
def sw_k_X0_arrangesAll : List Cond := .code yX0_arrangesAll cX0_arrangesAll 2 (some .boolean) :: (([.fieldLink RX0 59 "TopTurned$Blind" "startCount" "I", .fieldLink RX0 9 "TopTurned$Blind" "starts" "[I", .methodLink RX0 101 yX0_arranges, .instanceMethod yX0_arranges, .selects RX0 yX0_arranges yX0_arranges, .initialized RX0] : List Cond) ++ (wsX00 ++ (sw_k_X0_arranges ++ (([] : List Cond)))))
theorem gd_k_X0_arrangesAll : ∀ w ∈ sw_k_X0_arrangesAll, (w.onTables && w.keeps) = true ∨ ∃ ty, w = .arrayClass ty := List.forall_mem_cons.mpr ⟨good_of_word rfl, List.forall_mem_append.mpr ⟨fun w h => good_of_word (List.all_eq_true.mp (by decide +kernel : (([.fieldLink RX0 59 "TopTurned$Blind" "startCount" "I", .fieldLink RX0 9 "TopTurned$Blind" "starts" "[I", .methodLink RX0 101 yX0_arranges, .instanceMethod yX0_arranges, .selects RX0 yX0_arranges yX0_arranges, .initialized RX0] : List Cond)).all goodWord = true) w h), List.forall_mem_append.mpr ⟨gw_X0, List.forall_mem_append.mpr ⟨gd_k_X0_arranges, fun _ h => absurd h List.not_mem_nil⟩⟩⟩⟩
theorem iw_k_X0_arrangesAll_X0 : ∀ w ∈ wsX00, w ∈ sw_k_X0_arrangesAll := fun _ h => List.mem_cons_of_mem _ (List.mem_append_right _ (List.mem_append_left _ h))
theorem gc_k_X0_arrangesAll_k_X0_arranges : GoodIn sw_k_X0_arrangesAll sw_k_X0_arranges := fun w h => ⟨List.mem_cons_of_mem _ (List.mem_append_right _ (List.mem_append_right _ (List.mem_append_left _ h))), gd_k_X0_arranges w h⟩
set_option maxHeartbeats 4000000 in
set_option maxRecDepth 100000 in
theorem k_X0_arrangesAll (l : Launch) (D : va_G) (cC cI cZ : ClassId) (h0 h1 h2 h3 h4 h5 h6 h7 h8 h9 h10 h11 h12 h13 h14 : Nat) (sz : Nat) : Met l yX0_arrangesAll sw_k_X0_arrangesAll ({ frames := 6, cells := 0, slots := 0, locals := 300 }) (va_Pc [.ref h0] (kPre D cC cI cZ [(h0, .inr (0, [.ref h5, .ref h3, .ref h2, .ref h1, .int 1, .ref h6, .int 0])), (h1, .inl (cI, 120, .inl (fun _ => 0))), (h2, .inr (3, [.ref h5, .ref h3, .ref h7, .ref h4, .ref h8, .int 0])), (h3, .inr (5, [.int 0, .int 1, .int 1, .int 1, .int 0, .ref h9, .ref h10, .ref h11, .ref h12, .ref h13, .ref h14])), (h4, .inl (cZ, 120, .inl (upd (fun _ => 0) (Int32.toNatClampNeg 0) (vp_nar .boolean 1))))] sz)) (va_Qi (fun (r : Int32) (_ : Unit) => r = 1) (fun _ _ => True) (fun _ => False)) 0 0 (fun _ => False) := by
  refine Met.ofW (cc := cX0_arrangesAll) (maxL := 2) (ret := (some .boolean)) (by decide) rfl ?_
  intro p e s m args below meth c s₁ B hml hv
  obtain ⟨rfl, hsz, hP, hK, hD0⟩ := hv
  have hx := B.exec
  have hb := B.bytes
  have hr := B.returns
  have hts := atoms_spec (ws := sw_k_X0_arrangesAll) B.pre
  have hown : s.vm.findClass RX0 = some m.cls := findClass_of_methodNamed B.named
  have hlocks := B.notSynchronized
  subst hsz
  have hD := hD0
  have hS : va_S (fun _ => False) s.heap s.heap [] := va_S.rf
  have hl := lv_entry ([.ref h0]) (n := 2) (Nat.le_of_ble_eq_true rfl)
  rw [lg_entry_eq]
  generalize (lg_sl ([.ref h0]) ++ List.replicate (2 - (lg_sl ([.ref h0])).length) Slot.unset).toArray = ls at hl ⊢
  have hl : lv_has ls 2 [(0, .ref h0)] := hl
  refine lv_iconst (v := 0) hx hb dX0_arrangesAll_0 (by decide) ?_
  refine lv_istore_n (lv' := [(1, .int 0), (0, .ref h0)]) hx hb dX0_arrangesAll_1 rfl hl (by decide) rfl (fun ls hl => ?_)
  refine lv_iload_n hx hb dX0_arrangesAll_2 rfl (lv_at hl 0 rfl) ?_
  refine lv_aload_n hx hb dX0_arrangesAll_3 rfl (lv_at hl 1 rfl) ?_
  refine va_get (D := D) (ci := 0) (v := .int 1) (C := RX0) (T := TX0) (N := 7) hx hb hts iw_k_X0_arrangesAll_X0 hown hK hP 0 rfl rfl 4 (by decide) (hts (.fieldLink RX0 59 "TopTurned$Blind" "startCount" "I") (by decide +kernel)) (fun _ h9 => h9) rfl dX0_arrangesAll_4 ?_
  refine lv_icmp_ge (tgt := 31) hx hb dX0_arrangesAll_7 (by decide) (fun c => absurd c (by decide)) (fun _ => ?_)
  refine lv_aload_n hx hb dX0_arrangesAll_10 rfl (lv_at hl 1 rfl) ?_
  refine lv_aload_n hx hb dX0_arrangesAll_11 rfl (lv_at hl 1 rfl) ?_
  refine va_get (D := D) (ci := 0) (v := .ref h1) (C := RX0) (T := TX0) (N := 7) hx hb hts iw_k_X0_arrangesAll_X0 hown hK hP 0 rfl rfl 3 (by decide) (hts (.fieldLink RX0 9 "TopTurned$Blind" "starts" "[I") (by decide +kernel)) (fun _ h9 => h9) rfl dX0_arrangesAll_12 ?_
  refine lv_iload_n hx hb dX0_arrangesAll_15 rfl (lv_at hl 0 rfl) ?_
  refine va_iald (i := 0) hx hb hK hP 1 1 rfl rfl (vp_in_iff.mpr (by decide)) dX0_arrangesAll_16 ?_
  refine kt_eq (y := 0) (by decide +kernel) ?_
  have hPc := hP.sub (ws' := [(h0, .inr (0, [.ref h5, .ref h3, .ref h2, .ref h1, .int 1, .ref h6, .int 0])), (h2, .inr (3, [.ref h5, .ref h3, .ref h7, .ref h4, .ref h8, .int 0])), (h3, .inr (5, [.int 0, .int 1, .int 1, .int 1, .int 0, .ref h9, .ref h10, .ref h11, .ref h12, .ref h13, .ref h14])), (h4, .inl (cZ, 120, .inl (upd (fun _ => 0) (Int32.toNatClampNeg 0) (vp_nar .boolean 1))))]) [0, 2, 3, 4] rfl
  have hDc := hD.sub (ws' := [(h0, .inr (0, [.ref h5, .ref h3, .ref h2, .ref h1, .int 1, .ref h6, .int 0])), (h2, .inr (3, [.ref h5, .ref h3, .ref h7, .ref h4, .ref h8, .int 0])), (h3, .inr (5, [.int 0, .int 1, .int 1, .int 1, .int 0, .ref h9, .ref h10, .ref h11, .ref h12, .ref h13, .ref h14])), (h4, .inl (cZ, 120, .inl (upd (fun _ => 0) (Int32.toNatClampNeg 0) (vp_nar .boolean 1))))]) [0, 2, 3, 4] (by decide) rfl
  refine va_calli (va_runV (As := [.int 0]) (rest := []) ⟨hx, hb, hml, hown, hts⟩ (k_X0_arranges l D cC cI cZ h0 h2 h3 h4 h5 h1 h6 h7 h8 h9 h10 h11 h12 h13 h14 s.heap.size ) (cwV (C := RX0) 1 hts (goodIn_app (goodIn_of _ (by decide +kernel)) gc_k_X0_arrangesAll_k_X0_arranges) rfl rfl rfl (by decide +kernel) ⟨(Nat.le_of_ble_eq_true rfl), (Nat.le_of_ble_eq_true rfl)⟩) (kPreV hK hPc hDc (va_recv hK hPc (ci := 0) (q0 := 0) rfl rfl)) rfl rfl hl.1 rfl (lv_room (Nat.le_of_ble_eq_true rfl)) dX0_arrangesAll_17 ⟨(Nat.le_of_ble_eq_true rfl), (Nat.le_of_ble_eq_true rfl)⟩) hS (fun q _ h => False.elim h) (fun q h => False.elim h) (fun r1 u t H1 locs ht hvm hw hB hz1 hk1 hS => ?_)
  have hP := hP.kept (H1 := H1) (fun k q hk => hk1 q.1 (hP k q hk).lt (fun h => h))
  generalize H1 = H at hP hS ⊢
  have hw : r1 = 1 := hw
  subst hw
  refine lv_if_ne (tgt := 25) hx hb dX0_arrangesAll_20 (by decide) (fun _ => ?_) (fun c => absurd c (by decide))
  refine lv_iinc (v := 1) (lv' := [(1, .int 1), (0, .ref h0)]) hx hb dX0_arrangesAll_25 hl (k := 0) rfl (by decide) (by decide) rfl (fun ls hl => ?_)
  refine lv_goto (tgt := 2) hx hb dX0_arrangesAll_28 (by decide) ?_
  refine lv_iload_n hx hb dX0_arrangesAll_2 rfl (lv_at hl 0 rfl) ?_
  refine lv_aload_n hx hb dX0_arrangesAll_3 rfl (lv_at hl 1 rfl) ?_
  refine va_get (D := D) (ci := 0) (v := .int 1) (C := RX0) (T := TX0) (N := 7) hx hb hts iw_k_X0_arrangesAll_X0 hown hK hP 0 rfl rfl 4 (by decide) (hts (.fieldLink RX0 59 "TopTurned$Blind" "startCount" "I") (by decide +kernel)) (fun _ h9 => h9) rfl dX0_arrangesAll_4 ?_
  refine lv_icmp_ge (tgt := 31) hx hb dX0_arrangesAll_7 (by decide) (fun _ => ?_) (fun c => absurd (by decide) c)
  refine lv_iconst (v := 1) hx hb dX0_arrangesAll_31 (by decide) ?_
  exact W.zret (v := 1) hx hb hr rfl (fun t ht hW => ⟨⟨1, (), rfl, rfl, trivial⟩, hS.F ht⟩) hS.2.2 dX0_arrangesAll_32
def sw_k_X0_rowArrangesAll : List Cond := .code yX0_rowArrangesAll cX0_rowArrangesAll 1 (some .boolean) :: (([.methodLink RX0 48 yX0_listStarts, .instanceMethod yX0_listStarts, .selects RX0 yX0_listStarts yX0_listStarts, .initialized RX0, .methodLink RX0 51 yX0_arrangesAll, .instanceMethod yX0_arrangesAll, .selects RX0 yX0_arrangesAll yX0_arrangesAll] : List Cond) ++ (sw_k_X0_listStarts ++ (sw_k_X0_arrangesAll ++ (([] : List Cond)))))
theorem gd_k_X0_rowArrangesAll : ∀ w ∈ sw_k_X0_rowArrangesAll, (w.onTables && w.keeps) = true ∨ ∃ ty, w = .arrayClass ty := List.forall_mem_cons.mpr ⟨good_of_word rfl, List.forall_mem_append.mpr ⟨fun w h => good_of_word (List.all_eq_true.mp (by decide +kernel : (([.methodLink RX0 48 yX0_listStarts, .instanceMethod yX0_listStarts, .selects RX0 yX0_listStarts yX0_listStarts, .initialized RX0, .methodLink RX0 51 yX0_arrangesAll, .instanceMethod yX0_arrangesAll, .selects RX0 yX0_arrangesAll yX0_arrangesAll] : List Cond)).all goodWord = true) w h), List.forall_mem_append.mpr ⟨gd_k_X0_listStarts, List.forall_mem_append.mpr ⟨gd_k_X0_arrangesAll, fun _ h => absurd h List.not_mem_nil⟩⟩⟩⟩
theorem gc_k_X0_rowArrangesAll_k_X0_listStarts : GoodIn sw_k_X0_rowArrangesAll sw_k_X0_listStarts := fun w h => ⟨List.mem_cons_of_mem _ (List.mem_append_right _ (List.mem_append_left _ h)), gd_k_X0_listStarts w h⟩
theorem gc_k_X0_rowArrangesAll_k_X0_arrangesAll : GoodIn sw_k_X0_rowArrangesAll sw_k_X0_arrangesAll := fun w h => ⟨List.mem_cons_of_mem _ (List.mem_append_right _ (List.mem_append_right _ (List.mem_append_left _ h))), gd_k_X0_arrangesAll w h⟩
set_option maxHeartbeats 4000000 in
set_option maxRecDepth 100000 in
theorem k_X0_rowArrangesAll (l : Launch) (D : va_G) (cC cI cZ : ClassId) (h0 h1 h2 h3 h4 h5 h6 h7 h8 h9 h10 h11 h12 h13 h14 h15 h16 h17 h18 h19 h20 : Nat) (sz : Nat) : Met l yX0_rowArrangesAll sw_k_X0_rowArrangesAll ({ frames := 8, cells := 0, slots := 0, locals := 400 }) (va_Pc [.ref h0] (kPre D cC cI cZ [(h0, .inr (0, [.ref h1, .ref h2, .ref h4, .ref h3, .int 0, .ref h6, .int 0])), (h1, .inr (6, [.int 0, .ref h7, .ref h8, .int 0, .int 5, .int 9, .int 0, .int 1, .int 0, .int 0, .ref h9, .ref h10, .int 0, .ref h11, .int 0, .ref h12, .int 0])), (h2, .inr (5, [.int 0, .int 1, .int 1, .int 1, .int 0, .ref h13, .ref h14, .ref h15, .ref h16, .ref h17, .ref h18])), (h3, .inl (cI, 120, .inl (fun _ => 0))), (h4, .inr (3, [.ref h1, .ref h2, .ref h19, .ref h5, .ref h20, .int 0])), (h5, .inl (cZ, 120, .inl (upd (fun _ => 0) (Int32.toNatClampNeg 0) (vp_nar .boolean 1))))] sz)) (va_Qi (fun (r : Int32) (_ : Unit) => r = 1) (fun _ t => va_P D vwCl [(h4, .inr (3, [.ref h1, .ref h2, .ref h19, .ref h5, .ref h20, .int 0])), (h5, .inl (cZ, 120, .inl (upd (fun _ => 0) (Int32.toNatClampNeg 0) (vp_nar .boolean 1)))), (h0, .inr (0, [.ref h1, .ref h2, .ref h4, .ref h3, .int 1, .ref h6, .int 0])), (h1, .inr (6, [.int 0, .ref h7, .ref h8, .int 0, .int 5, .int 9, .int 0, .int 1, .int 0, .int 0, .ref h9, .ref h10, .int 0, .ref h11, .int 0, .ref h12, .int 0])), (h2, .inr (5, [.int 0, .int 1, .int 1, .int 1, .int 0, .ref h13, .ref h14, .ref h15, .ref h16, .ref h17, .ref h18])), (h3, .inl (cI, 120, .inl (fun _ => 0)))] t.heap ∧ va_D (va_A [(h0, .inr (0, [.ref h1, .ref h2, .ref h4, .ref h3, .int 0, .ref h6, .int 0])), (h1, .inr (6, [.int 0, .ref h7, .ref h8, .int 0, .int 5, .int 9, .int 0, .int 1, .int 0, .int 0, .ref h9, .ref h10, .int 0, .ref h11, .int 0, .ref h12, .int 0])), (h2, .inr (5, [.int 0, .int 1, .int 1, .int 1, .int 0, .ref h13, .ref h14, .ref h15, .ref h16, .ref h17, .ref h18])), (h3, .inl (cI, 120, .inl (fun _ => 0))), (h4, .inr (3, [.ref h1, .ref h2, .ref h19, .ref h5, .ref h20, .int 0])), (h5, .inl (cZ, 120, .inl (upd (fun _ => 0) (Int32.toNatClampNeg 0) (vp_nar .boolean 1))))] sz) [(h4, .inr (3, [.ref h1, .ref h2, .ref h19, .ref h5, .ref h20, .int 0])), (h5, .inl (cZ, 120, .inl (upd (fun _ => 0) (Int32.toNatClampNeg 0) (vp_nar .boolean 1)))), (h0, .inr (0, [.ref h1, .ref h2, .ref h4, .ref h3, .int 1, .ref h6, .int 0])), (h1, .inr (6, [.int 0, .ref h7, .ref h8, .int 0, .int 5, .int 9, .int 0, .int 1, .int 0, .int 0, .ref h9, .ref h10, .int 0, .ref h11, .int 0, .ref h12, .int 0])), (h2, .inr (5, [.int 0, .int 1, .int 1, .int 1, .int 0, .ref h13, .ref h14, .ref h15, .ref h16, .ref h17, .ref h18])), (h3, .inl (cI, 120, .inl (fun _ => 0)))]) (va_A [(h0, .inr (0, [.ref h1, .ref h2, .ref h4, .ref h3, .int 0, .ref h6, .int 0])), (h1, .inr (6, [.int 0, .ref h7, .ref h8, .int 0, .int 5, .int 9, .int 0, .int 1, .int 0, .int 0, .ref h9, .ref h10, .int 0, .ref h11, .int 0, .ref h12, .int 0])), (h2, .inr (5, [.int 0, .int 1, .int 1, .int 1, .int 0, .ref h13, .ref h14, .ref h15, .ref h16, .ref h17, .ref h18])), (h3, .inl (cI, 120, .inl (fun _ => 0))), (h4, .inr (3, [.ref h1, .ref h2, .ref h19, .ref h5, .ref h20, .int 0])), (h5, .inl (cZ, 120, .inl (upd (fun _ => 0) (Int32.toNatClampNeg 0) (vp_nar .boolean 1))))] sz)) 0 0 (va_A [(h0, .inr (0, [.ref h1, .ref h2, .ref h4, .ref h3, .int 0, .ref h6, .int 0])), (h1, .inr (6, [.int 0, .ref h7, .ref h8, .int 0, .int 5, .int 9, .int 0, .int 1, .int 0, .int 0, .ref h9, .ref h10, .int 0, .ref h11, .int 0, .ref h12, .int 0])), (h2, .inr (5, [.int 0, .int 1, .int 1, .int 1, .int 0, .ref h13, .ref h14, .ref h15, .ref h16, .ref h17, .ref h18])), (h3, .inl (cI, 120, .inl (fun _ => 0))), (h4, .inr (3, [.ref h1, .ref h2, .ref h19, .ref h5, .ref h20, .int 0])), (h5, .inl (cZ, 120, .inl (upd (fun _ => 0) (Int32.toNatClampNeg 0) (vp_nar .boolean 1))))] sz) := by
  refine Met.ofW (cc := cX0_rowArrangesAll) (maxL := 1) (ret := (some .boolean)) (by decide) rfl ?_
  intro p e s m args below meth c s₁ B hml hv
  obtain ⟨rfl, hsz, hP, hK, hD0⟩ := hv
  have hx := B.exec
  have hb := B.bytes
  have hr := B.returns
  have hts := atoms_spec (ws := sw_k_X0_rowArrangesAll) B.pre
  have hown : s.vm.findClass RX0 = some m.cls := findClass_of_methodNamed B.named
  have hlocks := B.notSynchronized
  subst hsz
  have hD := hD0.self (sz := s.heap.size)
  generalize hAe : va_A [(h0, .inr (0, [.ref h1, .ref h2, .ref h4, .ref h3, .int 0, .ref h6, .int 0])), (h1, .inr (6, [.int 0, .ref h7, .ref h8, .int 0, .int 5, .int 9, .int 0, .int 1, .int 0, .int 0, .ref h9, .ref h10, .int 0, .ref h11, .int 0, .ref h12, .int 0])), (h2, .inr (5, [.int 0, .int 1, .int 1, .int 1, .int 0, .ref h13, .ref h14, .ref h15, .ref h16, .ref h17, .ref h18])), (h3, .inl (cI, 120, .inl (fun _ => 0))), (h4, .inr (3, [.ref h1, .ref h2, .ref h19, .ref h5, .ref h20, .int 0])), (h5, .inl (cZ, 120, .inl (upd (fun _ => 0) (Int32.toNatClampNeg 0) (vp_nar .boolean 1))))] s.heap.size = A at hD ⊢
  have hA : ∀ q : Nat, s.heap.size ≤ q → A q := fun q h => by rw [← hAe]; exact Or.inr h
  have hS : va_S A s.heap s.heap [] := va_S.rf
  have hl := lv_entry ([.ref h0]) (n := 1) (Nat.le_of_ble_eq_true rfl)
  rw [lg_entry_eq]
  generalize (lg_sl ([.ref h0]) ++ List.replicate (1 - (lg_sl ([.ref h0])).length) Slot.unset).toArray = ls at hl ⊢
  have hl : lv_has ls 1 [(0, .ref h0)] := hl
  refine lv_aload_n hx hb dX0_rowArrangesAll_0 rfl (lv_at hl 0 rfl) ?_
  have hPc := hP.sub (ws' := [(h0, .inr (0, [.ref h1, .ref h2, .ref h4, .ref h3, .int 0, .ref h6, .int 0])), (h1, .inr (6, [.int 0, .ref h7, .ref h8, .int 0, .int 5, .int 9, .int 0, .int 1, .int 0, .int 0, .ref h9, .ref h10, .int 0, .ref h11, .int 0, .ref h12, .int 0])), (h2, .inr (5, [.int 0, .int 1, .int 1, .int 1, .int 0, .ref h13, .ref h14, .ref h15, .ref h16, .ref h17, .ref h18])), (h3, .inl (cI, 120, .inl (fun _ => 0)))]) [0, 1, 2, 3] rfl
  have hDc := hD.sub (ws' := [(h0, .inr (0, [.ref h1, .ref h2, .ref h4, .ref h3, .int 0, .ref h6, .int 0])), (h1, .inr (6, [.int 0, .ref h7, .ref h8, .int 0, .int 5, .int 9, .int 0, .int 1, .int 0, .int 0, .ref h9, .ref h10, .int 0, .ref h11, .int 0, .ref h12, .int 0])), (h2, .inr (5, [.int 0, .int 1, .int 1, .int 1, .int 0, .ref h13, .ref h14, .ref h15, .ref h16, .ref h17, .ref h18])), (h3, .inl (cI, 120, .inl (fun _ => 0)))]) [0, 1, 2, 3] (by decide) rfl
  have hFc := va_free (wc := [(h0, .inr (0, [.ref h1, .ref h2, .ref h4, .ref h3, .int 0, .ref h6, .int 0])), (h1, .inr (6, [.int 0, .ref h7, .ref h8, .int 0, .int 5, .int 9, .int 0, .int 1, .int 0, .int 0, .ref h9, .ref h10, .int 0, .ref h11, .int 0, .ref h12, .int 0])), (h2, .inr (5, [.int 0, .int 1, .int 1, .int 1, .int 0, .ref h13, .ref h14, .ref h15, .ref h16, .ref h17, .ref h18])), (h3, .inl (cI, 120, .inl (fun _ => 0)))]) hD hS hA [0, 1, 2, 3] rfl
  refine va_callv (va_runV (As := []) (rest := []) ⟨hx, hb, hml, hown, hts⟩ (k_X0_listStarts l D cC cI cZ h0 h1 h2 h3 h4 h6 h7 h8 h9 h10 h11 h12 h13 h14 h15 h16 h17 h18 s.heap.size ) (cwV (C := RX0) 0 hts (goodIn_app (goodIn_of _ (by decide +kernel)) gc_k_X0_rowArrangesAll_k_X0_listStarts) rfl rfl rfl (by decide +kernel) ⟨(Nat.le_of_ble_eq_true rfl), (Nat.le_of_ble_eq_true rfl)⟩) (kPreV hK hPc hDc (va_recv hK hPc (ci := 0) (q0 := 0) rfl rfl)) rfl rfl hl.1 rfl (lv_room (Nat.le_of_ble_eq_true rfl)) dX0_rowArrangesAll_1 ⟨(Nat.le_of_ble_eq_true rfl), (Nat.le_of_ble_eq_true rfl)⟩) hS (fun q _ h => hFc q h) hFc (fun u t H1 locs ht hvm hw hB hz1 hk1 hS => ?_)
  obtain ⟨hP1, hD1⟩ := hB
  rw [ht] at hP1
  obtain ⟨hP, hD⟩ := va_join (wr := [(h4, .inr (3, [.ref h1, .ref h2, .ref h19, .ref h5, .ref h20, .int 0])), (h5, .inl (cZ, 120, .inl (upd (fun _ => 0) (Int32.toNatClampNeg 0) (vp_nar .boolean 1))))]) (w1 := [(h0, .inr (0, [.ref h1, .ref h2, .ref h4, .ref h3, .int 1, .ref h6, .int 0])), (h1, .inr (6, [.int 0, .ref h7, .ref h8, .int 0, .int 5, .int 9, .int 0, .int 1, .int 0, .int 0, .ref h9, .ref h10, .int 0, .ref h11, .int 0, .ref h12, .int 0])), (h2, .inr (5, [.int 0, .int 1, .int 1, .int 1, .int 0, .ref h13, .ref h14, .ref h15, .ref h16, .ref h17, .ref h18])), (h3, .inl (cI, 120, .inl (fun _ => 0)))]) hP hD [0, 1, 2, 3] [4, 5] rfl rfl (by decide) (by decide) hk1 hFc hP1 hD1
  generalize H1 = H at hP hS ⊢
  have hP : va_P D vwCl [(h4, .inr (3, [.ref h1, .ref h2, .ref h19, .ref h5, .ref h20, .int 0])), (h5, .inl (cZ, 120, .inl (upd (fun _ => 0) (Int32.toNatClampNeg 0) (vp_nar .boolean 1)))), (h0, .inr (0, [.ref h1, .ref h2, .ref h4, .ref h3, .int 1, .ref h6, .int 0])), (h1, .inr (6, [.int 0, .ref h7, .ref h8, .int 0, .int 5, .int 9, .int 0, .int 1, .int 0, .int 0, .ref h9, .ref h10, .int 0, .ref h11, .int 0, .ref h12, .int 0])), (h2, .inr (5, [.int 0, .int 1, .int 1, .int 1, .int 0, .ref h13, .ref h14, .ref h15, .ref h16, .ref h17, .ref h18])), (h3, .inl (cI, 120, .inl (fun _ => 0)))] H := hP
  have hD : va_D A [(h4, .inr (3, [.ref h1, .ref h2, .ref h19, .ref h5, .ref h20, .int 0])), (h5, .inl (cZ, 120, .inl (upd (fun _ => 0) (Int32.toNatClampNeg 0) (vp_nar .boolean 1)))), (h0, .inr (0, [.ref h1, .ref h2, .ref h4, .ref h3, .int 1, .ref h6, .int 0])), (h1, .inr (6, [.int 0, .ref h7, .ref h8, .int 0, .int 5, .int 9, .int 0, .int 1, .int 0, .int 0, .ref h9, .ref h10, .int 0, .ref h11, .int 0, .ref h12, .int 0])), (h2, .inr (5, [.int 0, .int 1, .int 1, .int 1, .int 0, .ref h13, .ref h14, .ref h15, .ref h16, .ref h17, .ref h18])), (h3, .inl (cI, 120, .inl (fun _ => 0)))] := hD
  refine lv_aload_n hx hb dX0_rowArrangesAll_4 rfl (lv_at hl 0 rfl) ?_
  have hPc := hP.sub (ws' := [(h0, .inr (0, [.ref h1, .ref h2, .ref h4, .ref h3, .int 1, .ref h6, .int 0])), (h3, .inl (cI, 120, .inl (fun _ => 0))), (h4, .inr (3, [.ref h1, .ref h2, .ref h19, .ref h5, .ref h20, .int 0])), (h2, .inr (5, [.int 0, .int 1, .int 1, .int 1, .int 0, .ref h13, .ref h14, .ref h15, .ref h16, .ref h17, .ref h18])), (h5, .inl (cZ, 120, .inl (upd (fun _ => 0) (Int32.toNatClampNeg 0) (vp_nar .boolean 1))))]) [2, 5, 0, 4, 1] rfl
  have hDc := hD.sub (ws' := [(h0, .inr (0, [.ref h1, .ref h2, .ref h4, .ref h3, .int 1, .ref h6, .int 0])), (h3, .inl (cI, 120, .inl (fun _ => 0))), (h4, .inr (3, [.ref h1, .ref h2, .ref h19, .ref h5, .ref h20, .int 0])), (h2, .inr (5, [.int 0, .int 1, .int 1, .int 1, .int 0, .ref h13, .ref h14, .ref h15, .ref h16, .ref h17, .ref h18])), (h5, .inl (cZ, 120, .inl (upd (fun _ => 0) (Int32.toNatClampNeg 0) (vp_nar .boolean 1))))]) [2, 5, 0, 4, 1] (by decide) rfl
  refine va_calli (va_runV (As := []) (rest := []) ⟨hx, hb, hml, hown, hts⟩ (k_X0_arrangesAll l D cC cI cZ h0 h3 h4 h2 h5 h1 h6 h19 h20 h13 h14 h15 h16 h17 h18 H.size ) (cwV (C := RX0) 0 hts (goodIn_app (goodIn_of _ (by decide +kernel)) gc_k_X0_rowArrangesAll_k_X0_arrangesAll) rfl rfl rfl (by decide +kernel) ⟨(Nat.le_of_ble_eq_true rfl), (Nat.le_of_ble_eq_true rfl)⟩) (kPreV hK hPc hDc (va_recv hK hPc (ci := 0) (q0 := 0) rfl rfl)) rfl rfl hl.1 rfl (lv_room (Nat.le_of_ble_eq_true rfl)) dX0_rowArrangesAll_5 ⟨(Nat.le_of_ble_eq_true rfl), (Nat.le_of_ble_eq_true rfl)⟩) hS (fun q _ h => False.elim h) (fun q h => False.elim h) (fun r1 u t H1 locs ht hvm hw hB hz1 hk1 hS => ?_)
  have hP := hP.kept (H1 := H1) (fun k q hk => hk1 q.1 (hP k q hk).lt (fun h => h))
  generalize H1 = H at hP hS ⊢
  have hw : r1 = 1 := hw
  subst hw
  refine W.widen (k := 0) (n := 0) (Nat.le_of_ble_eq_true rfl) (Nat.le_of_ble_eq_true rfl) ?_
  have hP9 := hP.sub (ws' := [(h4, .inr (3, [.ref h1, .ref h2, .ref h19, .ref h5, .ref h20, .int 0])), (h5, .inl (cZ, 120, .inl (upd (fun _ => 0) (Int32.toNatClampNeg 0) (vp_nar .boolean 1)))), (h0, .inr (0, [.ref h1, .ref h2, .ref h4, .ref h3, .int 1, .ref h6, .int 0])), (h1, .inr (6, [.int 0, .ref h7, .ref h8, .int 0, .int 5, .int 9, .int 0, .int 1, .int 0, .int 0, .ref h9, .ref h10, .int 0, .ref h11, .int 0, .ref h12, .int 0])), (h2, .inr (5, [.int 0, .int 1, .int 1, .int 1, .int 0, .ref h13, .ref h14, .ref h15, .ref h16, .ref h17, .ref h18])), (h3, .inl (cI, 120, .inl (fun _ => 0)))]) [0, 1, 2, 3, 4, 5] rfl
  have hD9 := hD.sub (ws' := [(h4, .inr (3, [.ref h1, .ref h2, .ref h19, .ref h5, .ref h20, .int 0])), (h5, .inl (cZ, 120, .inl (upd (fun _ => 0) (Int32.toNatClampNeg 0) (vp_nar .boolean 1)))), (h0, .inr (0, [.ref h1, .ref h2, .ref h4, .ref h3, .int 1, .ref h6, .int 0])), (h1, .inr (6, [.int 0, .ref h7, .ref h8, .int 0, .int 5, .int 9, .int 0, .int 1, .int 0, .int 0, .ref h9, .ref h10, .int 0, .ref h11, .int 0, .ref h12, .int 0])), (h2, .inr (5, [.int 0, .int 1, .int 1, .int 1, .int 0, .ref h13, .ref h14, .ref h15, .ref h16, .ref h17, .ref h18])), (h3, .inl (cI, 120, .inl (fun _ => 0)))]) [0, 1, 2, 3, 4, 5] (by decide) rfl
  exact W.zret (v := 1) hx hb hr rfl (fun t ht hW => ⟨⟨1, (), rfl, rfl, ⟨by rw [ht]; exact hP9, hD9⟩⟩, hS.F ht⟩) hS.2.2 dX0_rowArrangesAll_8
