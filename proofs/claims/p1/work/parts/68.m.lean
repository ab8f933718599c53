def sw_k_X10_judge : List Cond := .code yX10_judge cX10_judge 5 (some .int) :: (([.fieldLink RX10 217 "TopTurnedModel" "rows" "I", .methodLink RX10 161 yX10_look, .instanceMethod yX10_look, .selects RX10 yX10_look yX10_look, .initialized RX10, .methodLink RX10 174 yX10_isSorted, .instanceMethod yX10_isSorted, .selects RX10 yX10_isSorted yX10_isSorted] : List Cond) ++ (wsX100 ++ (sw_k_X10_look ++ (sw_k_X10_isSorted ++ (([] : List Cond))))))
theorem gd_k_X10_judge : ∀ w ∈ sw_k_X10_judge, (w.onTables && w.keeps) = true ∨ ∃ ty, w = .arrayClass ty := List.forall_mem_cons.mpr ⟨good_of_word rfl, List.forall_mem_append.mpr ⟨fun w h => good_of_word (List.all_eq_true.mp (by decide +kernel : (([.fieldLink RX10 217 "TopTurnedModel" "rows" "I", .methodLink RX10 161 yX10_look, .instanceMethod yX10_look, .selects RX10 yX10_look yX10_look, .initialized RX10, .methodLink RX10 174 yX10_isSorted, .instanceMethod yX10_isSorted, .selects RX10 yX10_isSorted yX10_isSorted] : List Cond)).all goodWord = true) w h), List.forall_mem_append.mpr ⟨gw_X10, List.forall_mem_append.mpr ⟨gd_k_X10_look, List.forall_mem_append.mpr ⟨gd_k_X10_isSorted, fun _ h => absurd h List.not_mem_nil⟩⟩⟩⟩⟩
theorem iw_k_X10_judge_X10 : ∀ w ∈ wsX100, w ∈ sw_k_X10_judge := fun _ h => List.mem_cons_of_mem _ (List.mem_append_right _ (List.mem_append_left _ h))
theorem gc_k_X10_judge_k_X10_look : GoodIn sw_k_X10_judge sw_k_X10_look := fun w h => ⟨List.mem_cons_of_mem _ (List.mem_append_right _ (List.mem_append_right _ (List.mem_append_left _ h))), gd_k_X10_look w h⟩
theorem gc_k_X10_judge_k_X10_isSorted : GoodIn sw_k_X10_judge sw_k_X10_isSorted := fun w h => ⟨List.mem_cons_of_mem _ (List.mem_append_right _ (List.mem_append_right _ (List.mem_append_right _ (List.mem_append_left _ h)))), gd_k_X10_isSorted w h⟩
set_option maxHeartbeats 4000000 in
set_option maxRecDepth 100000 in
theorem k_X10_judge (l : Launch) (D : va_G) (cC cI cZ : ClassId) (h0 h1 h2 h3 h4 h5 h6 h7 h8 h9 h10 h11 h12 h13 h14 h15 h16 h17 h18 h19 h20 h21 h22 h23 h24 h25 : Nat) (sz : Nat) : Met l yX10_judge sw_k_X10_judge ({ frames := 6, cells := 0, slots := 0, locals := 300 }) (va_Pc [.ref h0] (kPre D cC cI cZ [(h0, .inr (10, [.ref h6, .ref h5, .ref h7, .ref h8, .ref h9, .ref h1, .ref h3, .int 0, .ref h10, .ref h11, .ref h12, .ref h13, .ref h14, .ref h15, .ref h16, .int 0, .int 0, .int 0, .ref h17, .ref h18, .int 0, .int 0, .int 0, .ref h2, .ref h4, .ref h19, .ref h20, .ref h21, .ref h22, .ref h23, .int 0, .ref h24, .int 0, .ref h25])), (h1, .inl (cI, 5, .inl (fun _ => 0))), (h2, .inl (cI, 5, .inl (fun _ => 0))), (h3, .inl (cI, 5, .inl (fun _ => 0))), (h4, .inl (cI, 5, .inl (fun _ => 0))), (h5, .inl (cI, 9, .inl (upd (upd (upd (fun _ => 0) (Int32.toNatClampNeg 3) 5) (Int32.toNatClampNeg 4) 9) (Int32.toNatClampNeg 7) 1)))] sz)) (va_Qi (fun (r : Int32) (_ : Unit) => r = (-9)) (fun _ _ => True) (va_A [(h0, .inr (10, [.ref h6, .ref h5, .ref h7, .ref h8, .ref h9, .ref h1, .ref h3, .int 0, .ref h10, .ref h11, .ref h12, .ref h13, .ref h14, .ref h15, .ref h16, .int 0, .int 0, .int 0, .ref h17, .ref h18, .int 0, .int 0, .int 0, .ref h2, .ref h4, .ref h19, .ref h20, .ref h21, .ref h22, .ref h23, .int 0, .ref h24, .int 0, .ref h25])), (h1, .inl (cI, 5, .inl (fun _ => 0))), (h2, .inl (cI, 5, .inl (fun _ => 0))), (h3, .inl (cI, 5, .inl (fun _ => 0))), (h4, .inl (cI, 5, .inl (fun _ => 0))), (h5, .inl (cI, 9, .inl (upd (upd (upd (fun _ => 0) (Int32.toNatClampNeg 3) 5) (Int32.toNatClampNeg 4) 9) (Int32.toNatClampNeg 7) 1)))] sz)) 0 0 (va_A [(h0, .inr (10, [.ref h6, .ref h5, .ref h7, .ref h8, .ref h9, .ref h1, .ref h3, .int 0, .ref h10, .ref h11, .ref h12, .ref h13, .ref h14, .ref h15, .ref h16, .int 0, .int 0, .int 0, .ref h17, .ref h18, .int 0, .int 0, .int 0, .ref h2, .ref h4, .ref h19, .ref h20, .ref h21, .ref h22, .ref h23, .int 0, .ref h24, .int 0, .ref h25])), (h1, .inl (cI, 5, .inl (fun _ => 0))), (h2, .inl (cI, 5, .inl (fun _ => 0))), (h3, .inl (cI, 5, .inl (fun _ => 0))), (h4, .inl (cI, 5, .inl (fun _ => 0))), (h5, .inl (cI, 9, .inl (upd (upd (upd (fun _ => 0) (Int32.toNatClampNeg 3) 5) (Int32.toNatClampNeg 4) 9) (Int32.toNatClampNeg 7) 1)))] sz) := by
  refine Met.ofW (cc := cX10_judge) (maxL := 5) (ret := (some .int)) (by decide) rfl ?_
  intro p e s m args below meth c s₁ B hml hv
  obtain ⟨rfl, hsz, hP, hK, hD0⟩ := hv
  have hx := B.exec
  have hb := B.bytes
  have hr := B.returns
  have hts := atoms_spec (ws := sw_k_X10_judge) B.pre
  have hown : s.vm.findClass RX10 = some m.cls := findClass_of_methodNamed B.named
  have hlocks := B.notSynchronized
  subst hsz
  have hD := hD0.self (sz := s.heap.size)
  generalize hAe : va_A [(h0, .inr (10, [.ref h6, .ref h5, .ref h7, .ref h8, .ref h9, .ref h1, .ref h3, .int 0, .ref h10, .ref h11, .ref h12, .ref h13, .ref h14, .ref h15, .ref h16, .int 0, .int 0, .int 0, .ref h17, .ref h18, .int 0, .int 0, .int 0, .ref h2, .ref h4, .ref h19, .ref h20, .ref h21, .ref h22, .ref h23, .int 0, .ref h24, .int 0, .ref h25])), (h1, .inl (cI, 5, .inl (fun _ => 0))), (h2, .inl (cI, 5, .inl (fun _ => 0))), (h3, .inl (cI, 5, .inl (fun _ => 0))), (h4, .inl (cI, 5, .inl (fun _ => 0))), (h5, .inl (cI, 9, .inl (upd (upd (upd (fun _ => 0) (Int32.toNatClampNeg 3) 5) (Int32.toNatClampNeg 4) 9) (Int32.toNatClampNeg 7) 1)))] s.heap.size = A at hD ⊢
  have hA : ∀ q : Nat, s.heap.size ≤ q → A q := fun q h => by rw [← hAe]; exact Or.inr h
  have hS : va_S A s.heap s.heap [] := va_S.rf
  have hl := lv_entry ([.ref h0]) (n := 5) (Nat.le_of_ble_eq_true rfl)
  rw [lg_entry_eq]
  generalize (lg_sl ([.ref h0]) ++ List.replicate (5 - (lg_sl ([.ref h0])).length) Slot.unset).toArray = ls at hl ⊢
  have hl : lv_has ls 5 [(0, .ref h0)] := hl
  refine lv_aload_n hx hb dX10_judge_0 rfl (lv_at hl 0 rfl) ?_
  refine va_get (D := D) (ci := 10) (v := .int 0) (C := RX10) (T := TX10) (N := 34) hx hb hts iw_k_X10_judge_X10 hown hK hP 0 rfl rfl 32 (by decide) (hts (.fieldLink RX10 217 "TopTurnedModel" "rows" "I") (by decide +kernel)) (fun _ h9 => h9) rfl dX10_judge_1 ?_
  refine lv_istore_n (lv' := [(1, .int 0), (0, .ref h0)]) hx hb dX10_judge_4 rfl hl (by decide) rfl (fun ls hl => ?_)
  refine lv_aload_n hx hb dX10_judge_5 rfl (lv_at hl 1 rfl) ?_
  refine lv_iconst (v := 0) hx hb dX10_judge_6 (by decide) ?_
  refine va_put (D := D) (ci := 10) (v := .int 0) (ty := .int) (C := RX10) (T := TX10) (N := 34) hx hb hts iw_k_X10_judge_X10 tyX10 tyX10_ok nmX10 hown hK hP hD hS 0 rfl rfl 32 (by decide) (hts (.fieldLink RX10 217 "TopTurnedModel" "rows" "I") (by decide +kernel)) (fun _ h9 => h9) rfl (by decide +kernel) rfl rfl (Nat.le_of_ble_eq_true rfl) dX10_judge_7 (fun H locs hP hD hS => ?_)
  have hP : va_P D vwCl [(h0, .inr (10, [.ref h6, .ref h5, .ref h7, .ref h8, .ref h9, .ref h1, .ref h3, .int 0, .ref h10, .ref h11, .ref h12, .ref h13, .ref h14, .ref h15, .ref h16, .int 0, .int 0, .int 0, .ref h17, .ref h18, .int 0, .int 0, .int 0, .ref h2, .ref h4, .ref h19, .ref h20, .ref h21, .ref h22, .ref h23, .int 0, .ref h24, .int 0, .ref h25])), (h1, .inl (cI, 5, .inl (fun _ => 0))), (h2, .inl (cI, 5, .inl (fun _ => 0))), (h3, .inl (cI, 5, .inl (fun _ => 0))), (h4, .inl (cI, 5, .inl (fun _ => 0))), (h5, .inl (cI, 9, .inl (upd (upd (upd (fun _ => 0) (Int32.toNatClampNeg 3) 5) (Int32.toNatClampNeg 4) 9) (Int32.toNatClampNeg 7) 1)))] H := hP
  have hD : va_D A [(h0, .inr (10, [.ref h6, .ref h5, .ref h7, .ref h8, .ref h9, .ref h1, .ref h3, .int 0, .ref h10, .ref h11, .ref h12, .ref h13, .ref h14, .ref h15, .ref h16, .int 0, .int 0, .int 0, .ref h17, .ref h18, .int 0, .int 0, .int 0, .ref h2, .ref h4, .ref h19, .ref h20, .ref h21, .ref h22, .ref h23, .int 0, .ref h24, .int 0, .ref h25])), (h1, .inl (cI, 5, .inl (fun _ => 0))), (h2, .inl (cI, 5, .inl (fun _ => 0))), (h3, .inl (cI, 5, .inl (fun _ => 0))), (h4, .inl (cI, 5, .inl (fun _ => 0))), (h5, .inl (cI, 9, .inl (upd (upd (upd (fun _ => 0) (Int32.toNatClampNeg 3) 5) (Int32.toNatClampNeg 4) 9) (Int32.toNatClampNeg 7) 1)))] := hD
  refine lv_aload_n hx hb dX10_judge_10 rfl (lv_at hl 1 rfl) ?_
  have hPc := hP.sub (ws' := [(h0, .inr (10, [.ref h6, .ref h5, .ref h7, .ref h8, .ref h9, .ref h1, .ref h3, .int 0, .ref h10, .ref h11, .ref h12, .ref h13, .ref h14, .ref h15, .ref h16, .int 0, .int 0, .int 0, .ref h17, .ref h18, .int 0, .int 0, .int 0, .ref h2, .ref h4, .ref h19, .ref h20, .ref h21, .ref h22, .ref h23, .int 0, .ref h24, .int 0, .ref h25])), (h1, .inl (cI, 5, .inl (fun _ => 0))), (h2, .inl (cI, 5, .inl (fun _ => 0))), (h3, .inl (cI, 5, .inl (fun _ => 0))), (h4, .inl (cI, 5, .inl (fun _ => 0)))]) [0, 1, 2, 3, 4] rfl
  have hDc := hD.sub (ws' := [(h0, .inr (10, [.ref h6, .ref h5, .ref h7, .ref h8, .ref h9, .ref h1, .ref h3, .int 0, .ref h10, .ref h11, .ref h12, .ref h13, .ref h14, .ref h15, .ref h16, .int 0, .int 0, .int 0, .ref h17, .ref h18, .int 0, .int 0, .int 0, .ref h2, .ref h4, .ref h19, .ref h20, .ref h21, .ref h22, .ref h23, .int 0, .ref h24, .int 0, .ref h25])), (h1, .inl (cI, 5, .inl (fun _ => 0))), (h2, .inl (cI, 5, .inl (fun _ => 0))), (h3, .inl (cI, 5, .inl (fun _ => 0))), (h4, .inl (cI, 5, .inl (fun _ => 0)))]) [0, 1, 2, 3, 4] (by decide) rfl
  have hFc := va_free (wc := [(h0, .inr (10, [.ref h6, .ref h5, .ref h7, .ref h8, .ref h9, .ref h1, .ref h3, .int 0, .ref h10, .ref h11, .ref h12, .ref h13, .ref h14, .ref h15, .ref h16, .int 0, .int 0, .int 0, .ref h17, .ref h18, .int 0, .int 0, .int 0, .ref h2, .ref h4, .ref h19, .ref h20, .ref h21, .ref h22, .ref h23, .int 0, .ref h24, .int 0, .ref h25])), (h1, .inl (cI, 5, .inl (fun _ => 0))), (h2, .inl (cI, 5, .inl (fun _ => 0))), (h3, .inl (cI, 5, .inl (fun _ => 0))), (h4, .inl (cI, 5, .inl (fun _ => 0)))]) hD hS hA [0, 1, 2, 3, 4] rfl
  refine va_callv (va_runV (As := []) (rest := []) ⟨hx, hb, hml, hown, hts⟩ (k_X10_look l D cC cI cZ h0 h1 h2 h3 h4 h6 h5 h7 h8 h9 h10 h11 h12 h13 h14 h15 h16 h17 h18 h19 h20 h21 h22 h23 h24 h25 H.size ) (cwV (C := RX10) 0 hts (goodIn_app (goodIn_of _ (by decide +kernel)) gc_k_X10_judge_k_X10_look) rfl rfl rfl (by decide +kernel) ⟨(Nat.le_of_ble_eq_true rfl), (Nat.le_of_ble_eq_true rfl)⟩) (kPreV hK hPc hDc (va_recv hK hPc (ci := 10) (q0 := 0) rfl rfl)) rfl rfl hl.1 rfl (lv_room (Nat.le_of_ble_eq_true rfl)) dX10_judge_11 ⟨(Nat.le_of_ble_eq_true rfl), (Nat.le_of_ble_eq_true rfl)⟩) hS (fun q _ h => hFc q h) hFc (fun u t H1 locs ht hvm hw hB hz1 hk1 hS => ?_)
  obtain ⟨hP1, hD1⟩ := hB
  rw [ht] at hP1
  obtain ⟨hP, hD⟩ := va_join (wr := [(h5, .inl (cI, 9, .inl (upd (upd (upd (fun _ => 0) (Int32.toNatClampNeg 3) 5) (Int32.toNatClampNeg 4) 9) (Int32.toNatClampNeg 7) 1)))]) (w1 := [(h0, .inr (10, [.ref h6, .ref h5, .ref h7, .ref h8, .ref h9, .ref h1, .ref h3, .int 0, .ref h10, .ref h11, .ref h12, .ref h13, .ref h14, .ref h15, .ref h16, .int 0, .int 0, .int 0, .ref h17, .ref h18, .int 0, .int 0, .int 0, .ref h2, .ref h4, .ref h19, .ref h20, .ref h21, .ref h22, .ref h23, .int 0, .ref h24, .int 0, .ref h25])), (h1, .inl (cI, 5, .inl (fun _ => 0))), (h2, .inl (cI, 5, .inl (fun _ => 0))), (h3, .inl (cI, 5, .inl (fun _ => 0))), (h4, .inl (cI, 5, .inl (fun _ => 0)))]) hP hD [0, 1, 2, 3, 4] [5] rfl rfl (by decide) (by decide) hk1 hFc hP1 hD1
  generalize H1 = H at hP hS ⊢
  have hP : va_P D vwCl [(h5, .inl (cI, 9, .inl (upd (upd (upd (fun _ => 0) (Int32.toNatClampNeg 3) 5) (Int32.toNatClampNeg 4) 9) (Int32.toNatClampNeg 7) 1))), (h0, .inr (10, [.ref h6, .ref h5, .ref h7, .ref h8, .ref h9, .ref h1, .ref h3, .int 0, .ref h10, .ref h11, .ref h12, .ref h13, .ref h14, .ref h15, .ref h16, .int 0, .int 0, .int 0, .ref h17, .ref h18, .int 0, .int 0, .int 0, .ref h2, .ref h4, .ref h19, .ref h20, .ref h21, .ref h22, .ref h23, .int 0, .ref h24, .int 0, .ref h25])), (h1, .inl (cI, 5, .inl (fun _ => 0))), (h2, .inl (cI, 5, .inl (fun _ => 0))), (h3, .inl (cI, 5, .inl (fun _ => 0))), (h4, .inl (cI, 5, .inl (fun _ => 0)))] H := hP
  have hD : va_D A [(h5, .inl (cI, 9, .inl (upd (upd (upd (fun _ => 0) (Int32.toNatClampNeg 3) 5) (Int32.toNatClampNeg 4) 9) (Int32.toNatClampNeg 7) 1))), (h0, .inr (10, [.ref h6, .ref h5, .ref h7, .ref h8, .ref h9, .ref h1, .ref h3, .int 0, .ref h10, .ref h11, .ref h12, .ref h13, .ref h14, .ref h15, .ref h16, .int 0, .int 0, .int 0, .ref h17, .ref h18, .int 0, .int 0, .int 0, .ref h2, .ref h4, .ref h19, .ref h20, .ref h21, .ref h22, .ref h23, .int 0, .ref h24, .int 0, .ref h25])), (h1, .inl (cI, 5, .inl (fun _ => 0))), (h2, .inl (cI, 5, .inl (fun _ => 0))), (h3, .inl (cI, 5, .inl (fun _ => 0))), (h4, .inl (cI, 5, .inl (fun _ => 0)))] := hD
  refine lv_iconst (v := 0) hx hb dX10_judge_14 (by decide) ?_
  refine lv_istore_n (lv' := [(2, .int 0), (1, .int 0), (0, .ref h0)]) hx hb dX10_judge_15 rfl hl (by decide) rfl (fun ls hl => ?_)
  refine lv_iload_n hx hb dX10_judge_16 rfl (lv_at hl 0 rfl) ?_
  refine lv_iload_n hx hb dX10_judge_17 rfl (lv_at hl 1 rfl) ?_
  refine lv_icmp_ge (tgt := 77) hx hb dX10_judge_18 (by decide) (fun _ => ?_) (fun c => absurd (by decide) c)
  refine lv_aload_n hx hb dX10_judge_77 rfl (lv_at hl 2 rfl) ?_
  have hPc := hP.sub (ws' := [(h0, .inr (10, [.ref h6, .ref h5, .ref h7, .ref h8, .ref h9, .ref h1, .ref h3, .int 0, .ref h10, .ref h11, .ref h12, .ref h13, .ref h14, .ref h15, .ref h16, .int 0, .int 0, .int 0, .ref h17, .ref h18, .int 0, .int 0, .int 0, .ref h2, .ref h4, .ref h19, .ref h20, .ref h21, .ref h22, .ref h23, .int 0, .ref h24, .int 0, .ref h25])), (h5, .inl (cI, 9, .inl (upd (upd (upd (fun _ => 0) (Int32.toNatClampNeg 3) 5) (Int32.toNatClampNeg 4) 9) (Int32.toNatClampNeg 7) 1)))]) [1, 0] rfl
  have hDc := hD.sub (ws' := [(h0, .inr (10, [.ref h6, .ref h5, .ref h7, .ref h8, .ref h9, .ref h1, .ref h3, .int 0, .ref h10, .ref h11, .ref h12, .ref h13, .ref h14, .ref h15, .ref h16, .int 0, .int 0, .int 0, .ref h17, .ref h18, .int 0, .int 0, .int 0, .ref h2, .ref h4, .ref h19, .ref h20, .ref h21, .ref h22, .ref h23, .int 0, .ref h24, .int 0, .ref h25])), (h5, .inl (cI, 9, .inl (upd (upd (upd (fun _ => 0) (Int32.toNatClampNeg 3) 5) (Int32.toNatClampNeg 4) 9) (Int32.toNatClampNeg 7) 1)))]) [1, 0] (by decide) rfl
  refine va_calli (va_runV (As := []) (rest := []) ⟨hx, hb, hml, hown, hts⟩ (k_X10_isSorted l D cC cI cZ h0 h5 h6 h7 h8 h9 h1 h3 h10 h11 h12 h13 h14 h15 h16 h17 h18 h2 h4 h19 h20 h21 h22 h23 h24 h25 H.size ) (cwV (C := RX10) 0 hts (goodIn_app (goodIn_of _ (by decide +kernel)) gc_k_X10_judge_k_X10_isSorted) rfl rfl rfl (by decide +kernel) ⟨(Nat.le_of_ble_eq_true rfl), (Nat.le_of_ble_eq_true rfl)⟩) (kPreV hK hPc hDc (va_recv hK hPc (ci := 10) (q0 := 0) rfl rfl)) rfl rfl hl.1 rfl (lv_room (Nat.le_of_ble_eq_true rfl)) dX10_judge_78 ⟨(Nat.le_of_ble_eq_true rfl), (Nat.le_of_ble_eq_true rfl)⟩) hS (fun q _ h => False.elim h) (fun q h => False.elim h) (fun r1 u t H1 locs ht hvm hw hB hz1 hk1 hS => ?_)
  have hP := hP.kept (H1 := H1) (fun k q hk => hk1 q.1 (hP k q hk).lt (fun h => h))
  generalize H1 = H at hP hS ⊢
  have hw : r1 = 1 := hw
  subst hw
  refine lv_if_eq (tgt := 89) hx hb dX10_judge_81 (by decide) (fun c => absurd c (by decide)) (fun _ => ?_)
  refine lv_bipush (v := (-9)) hx hb dX10_judge_84 (by decide) ?_
  refine lv_goto (tgt := 90) hx hb dX10_judge_86 (by decide) ?_
  refine W.widen (k := 0) (n := 0) (Nat.le_of_ble_eq_true rfl) (Nat.le_of_ble_eq_true rfl) ?_
  exact W.iret (v := (-9)) hx hb hr (fun t ht hW => ⟨⟨(-9), (), rfl, rfl, trivial⟩, hS.F ht⟩) hS.2.2 dX10_judge_90
def sw_k_X10_isBlind : List Cond := .code yX10_isBlind cX10_isBlind 10 (some .boolean) :: (([.methodLink RX10 190 yX10_many, .instanceMethod yX10_many, .selects RX10 yX10_many yX10_many, .initialized RX10, .fieldLink RX10 13 "TopTurnedModel" "told" "[I", .methodLink RX10 184 yX10_look_, .instanceMethod yX10_look_, .selects RX10 yX10_look_ yX10_look_, .methodLink RX10 174 yX10_isSorted, .instanceMethod yX10_isSorted, .selects RX10 yX10_isSorted yX10_isSorted] : List Cond) ++ (sw_k_X10_many ++ (wsX100 ++ (sw_k_X10_look_ ++ (sw_k_X10_isSorted ++ (([] : List Cond)))))))
theorem gd_k_X10_isBlind : ∀ w ∈ sw_k_X10_isBlind, (w.onTables && w.keeps) = true ∨ ∃ ty, w = .arrayClass ty := List.forall_mem_cons.mpr ⟨good_of_word rfl, List.forall_mem_append.mpr ⟨fun w h => good_of_word (List.all_eq_true.mp (by decide +kernel : (([.methodLink RX10 190 yX10_many, .instanceMethod yX10_many, .selects RX10 yX10_many yX10_many, .initialized RX10, .fieldLink RX10 13 "TopTurnedModel" "told" "[I", .methodLink RX10 184 yX10_look_, .instanceMethod yX10_look_, .selects RX10 yX10_look_ yX10_look_, .methodLink RX10 174 yX10_isSorted, .instanceMethod yX10_isSorted, .selects RX10 yX10_isSorted yX10_isSorted] : List Cond)).all goodWord = true) w h), List.forall_mem_append.mpr ⟨gd_k_X10_many, List.forall_mem_append.mpr ⟨gw_X10, List.forall_mem_append.mpr ⟨gd_k_X10_look_, List.forall_mem_append.mpr ⟨gd_k_X10_isSorted, fun _ h => absurd h List.not_mem_nil⟩⟩⟩⟩⟩⟩
theorem gc_k_X10_isBlind_k_X10_many : GoodIn sw_k_X10_isBlind sw_k_X10_many := fun w h => ⟨List.mem_cons_of_mem _ (List.mem_append_right _ (List.mem_append_left _ h)), gd_k_X10_many w h⟩
theorem iw_k_X10_isBlind_X10 : ∀ w ∈ wsX100, w ∈ sw_k_X10_isBlind := fun _ h => List.mem_cons_of_mem _ (List.mem_append_right _ (List.mem_append_right _ (List.mem_append_left _ h)))
theorem gc_k_X10_isBlind_k_X10_look_ : GoodIn sw_k_X10_isBlind sw_k_X10_look_ := fun w h => ⟨List.mem_cons_of_mem _ (List.mem_append_right _ (List.mem_append_right _ (List.mem_append_right _ (List.mem_append_left _ h)))), gd_k_X10_look_ w h⟩
theorem gc_k_X10_isBlind_k_X10_isSorted : GoodIn sw_k_X10_isBlind sw_k_X10_isSorted := fun w h => ⟨List.mem_cons_of_mem _ (List.mem_append_right _ (List.mem_append_right _ (List.mem_append_right _ (List.mem_append_right _ (List.mem_append_left _ h))))), gd_k_X10_isSorted w h⟩
set_option maxHeartbeats 4000000 in
set_option maxRecDepth 100000 in
theorem k_X10_isBlind (l : Launch) (D : va_G) (cC cI cZ : ClassId) (h0 h1 h2 h3 h4 h5 h6 h7 h8 h9 h10 h11 h12 h13 h14 h15 h16 h17 h18 h19 h20 h21 h22 h23 h24 h25 : Nat) (sz : Nat) : Met l yX10_isBlind sw_k_X10_isBlind ({ frames := 4, cells := 0, slots := 0, locals := 200 }) (va_Pc [.ref h0, .ref h1, .int 0] (kPre D cC cI cZ [(h0, .inr (10, [.ref h3, .ref h2, .ref h4, .ref h5, .ref h6, .ref h7, .ref h8, .int 0, .ref h9, .ref h10, .ref h11, .ref h12, .ref h13, .ref h14, .ref h15, .int 0, .int 0, .int 0, .ref h16, .ref h17, .int 0, .int 0, .int 0, .ref h18, .ref h19, .ref h20, .ref h21, .ref h22, .ref h23, .ref h24, .int 0, .ref h1, .int 0, .ref h25])), (h2, .inl (cI, 9, .inl (upd (upd (upd (fun _ => 0) (Int32.toNatClampNeg 3) 5) (Int32.toNatClampNeg 4) 9) (Int32.toNatClampNeg 7) 1)))] sz)) (va_Qi (fun (r : Int32) (_ : Unit) => r = 1) (fun _ _ => True) (fun _ => False)) 0 0 (fun _ => False) := by
  refine Met.ofW (cc := cX10_isBlind) (maxL := 10) (ret := (some .boolean)) (by decide) rfl ?_
  intro p e s m args below meth c s₁ B hml hv
  obtain ⟨rfl, hsz, hP, hK, hD0⟩ := hv
  have hx := B.exec
  have hb := B.bytes
  have hr := B.returns
  have hts := atoms_spec (ws := sw_k_X10_isBlind) B.pre
  have hown : s.vm.findClass RX10 = some m.cls := findClass_of_methodNamed B.named
  have hlocks := B.notSynchronized
  subst hsz
  have hD := hD0
  have hS : va_S (fun _ => False) s.heap s.heap [] := va_S.rf
  have hl := lv_entry ([.ref h0, .ref h1, .int 0]) (n := 10) (Nat.le_of_ble_eq_true rfl)
  rw [lg_entry_eq]
  generalize (lg_sl ([.ref h0, .ref h1, .int 0]) ++ List.replicate (10 - (lg_sl ([.ref h0, .ref h1, .int 0])).length) Slot.unset).toArray = ls at hl ⊢
  have hl : lv_has ls 10 [(0, .ref h0), (1, .ref h1), (2, .int 0)] := hl
  refine lv_aload_n hx hb dX10_isBlind_0 rfl (lv_at hl 0 rfl) ?_
  have hPc := hP.sub (ws' := [(h0, .inr (10, [.ref h3, .ref h2, .ref h4, .ref h5, .ref h6, .ref h7, .ref h8, .int 0, .ref h9, .ref h10, .ref h11, .ref h12, .ref h13, .ref h14, .ref h15, .int 0, .int 0, .int 0, .ref h16, .ref h17, .int 0, .int 0, .int 0, .ref h18, .ref h19, .ref h20, .ref h21, .ref h22, .ref h23, .ref h24, .int 0, .ref h1, .int 0, .ref h25])), (h2, .inl (cI, 9, .inl (upd (upd (upd (fun _ => 0) (Int32.toNatClampNeg 3) 5) (Int32.toNatClampNeg 4) 9) (Int32.toNatClampNeg 7) 1)))]) [0, 1] rfl
  have hDc := hD.sub (ws' := [(h0, .inr (10, [.ref h3, .ref h2, .ref h4, .ref h5, .ref h6, .ref h7, .ref h8, .int 0, .ref h9, .ref h10, .ref h11, .ref h12, .ref h13, .ref h14, .ref h15, .int 0, .int 0, .int 0, .ref h16, .ref h17, .int 0, .int 0, .int 0, .ref h18, .ref h19, .ref h20, .ref h21, .ref h22, .ref h23, .ref h24, .int 0, .ref h1, .int 0, .ref h25])), (h2, .inl (cI, 9, .inl (upd (upd (upd (fun _ => 0) (Int32.toNatClampNeg 3) 5) (Int32.toNatClampNeg 4) 9) (Int32.toNatClampNeg 7) 1)))]) [0, 1] (by decide) rfl
  refine va_calli (va_runV (As := []) (rest := []) ⟨hx, hb, hml, hown, hts⟩ (k_X10_many l D cC cI cZ h0 h2 h3 h4 h5 h6 h7 h8 h9 h10 h11 h12 h13 h14 h15 h16 h17 h18 h19 h20 h21 h22 h23 h24 h1 h25 s.heap.size ) (cwV (C := RX10) 0 hts (goodIn_app (goodIn_of _ (by decide +kernel)) gc_k_X10_isBlind_k_X10_many) rfl rfl rfl (by decide +kernel) ⟨(Nat.le_of_ble_eq_true rfl), (Nat.le_of_ble_eq_true rfl)⟩) (kPreV hK hPc hDc (va_recv hK hPc (ci := 10) (q0 := 0) rfl rfl)) rfl rfl hl.1 rfl (lv_room (Nat.le_of_ble_eq_true rfl)) dX10_isBlind_1 ⟨(Nat.le_of_ble_eq_true rfl), (Nat.le_of_ble_eq_true rfl)⟩) hS (fun q _ h => False.elim h) (fun q h => False.elim h) (fun r1 u t H1 locs ht hvm hw hB hz1 hk1 hS => ?_)
  have hP := hP.kept (H1 := H1) (fun k q hk => hk1 q.1 (hP k q hk).lt (fun h => h))
  generalize H1 = H at hP hS ⊢
  have hw : r1 = 1 := hw
  subst hw
  refine lv_aload_n hx hb dX10_isBlind_4 rfl (lv_at hl 0 rfl) ?_
  refine va_get (D := D) (ci := 10) (v := .ref h2) (C := RX10) (T := TX10) (N := 34) hx hb hts iw_k_X10_isBlind_X10 hown hK hP 0 rfl rfl 1 (by decide) (hts (.fieldLink RX10 13 "TopTurnedModel" "told" "[I") (by decide +kernel)) (fun _ h9 => h9) rfl dX10_isBlind_5 ?_
  refine lv_iconst (v := 0) hx hb dX10_isBlind_8 (by decide) ?_
  refine va_iald (i := 0) hx hb hK hP 1 1 rfl rfl (vp_in_iff.mpr (by decide)) dX10_isBlind_9 ?_
  refine kt_eq (y := 0) (by decide +kernel) ?_
  refine lv_ishr hx hb dX10_isBlind_10 ?_
  refine kt_eq (y := 1) (by decide +kernel) ?_
  refine lv_istore_n (lv' := [(3, .int 1), (0, .ref h0), (1, .ref h1), (2, .int 0)]) hx hb dX10_isBlind_11 rfl hl (by decide) rfl (fun ls hl => ?_)
  refine lv_iconst (v := 0) hx hb dX10_isBlind_12 (by decide) ?_
  refine lv_istore (lv' := [(4, .int 0), (3, .int 1), (0, .ref h0), (1, .ref h1), (2, .int 0)]) hx hb dX10_isBlind_13 hl (by decide) rfl (fun ls hl => ?_)
  refine lv_iload hx hb dX10_isBlind_15 (lv_at hl 0 rfl) ?_
  refine lv_iload_n hx hb dX10_isBlind_17 rfl (lv_at hl 1 rfl) ?_
  refine lv_icmp_ge (tgt := 288) hx hb dX10_isBlind_18 (by decide) (fun c => absurd c (by decide)) (fun _ => ?_)
  refine lv_aload_n hx hb dX10_isBlind_21 rfl (lv_at hl 2 rfl) ?_
  refine lv_iload hx hb dX10_isBlind_22 (lv_at hl 0 rfl) ?_
  refine lv_aload_n hx hb dX10_isBlind_24 rfl (lv_at hl 2 rfl) ?_
  refine va_get (D := D) (ci := 10) (v := .ref h2) (C := RX10) (T := TX10) (N := 34) hx hb hts iw_k_X10_isBlind_X10 hown hK hP 0 rfl rfl 1 (by decide) (hts (.fieldLink RX10 13 "TopTurnedModel" "told" "[I") (by decide +kernel)) (fun _ h9 => h9) rfl dX10_isBlind_25 ?_
  refine lv_iconst (v := 0) hx hb dX10_isBlind_28 (by decide) ?_
  refine va_iald (i := 0) hx hb hK hP 1 1 rfl rfl (vp_in_iff.mpr (by decide)) dX10_isBlind_29 ?_
  refine kt_eq (y := 0) (by decide +kernel) ?_
  refine lv_ishl hx hb dX10_isBlind_30 ?_
  refine kt_eq (y := 0) (by decide +kernel) ?_
  have hPc := hP.sub (ws' := [(h0, .inr (10, [.ref h3, .ref h2, .ref h4, .ref h5, .ref h6, .ref h7, .ref h8, .int 0, .ref h9, .ref h10, .ref h11, .ref h12, .ref h13, .ref h14, .ref h15, .int 0, .int 0, .int 0, .ref h16, .ref h17, .int 0, .int 0, .int 0, .ref h18, .ref h19, .ref h20, .ref h21, .ref h22, .ref h23, .ref h24, .int 0, .ref h1, .int 0, .ref h25])), (h2, .inl (cI, 9, .inl (upd (upd (upd (fun _ => 0) (Int32.toNatClampNeg 3) 5) (Int32.toNatClampNeg 4) 9) (Int32.toNatClampNeg 7) 1)))]) [0, 1] rfl
  have hDc := hD.sub (ws' := [(h0, .inr (10, [.ref h3, .ref h2, .ref h4, .ref h5, .ref h6, .ref h7, .ref h8, .int 0, .ref h9, .ref h10, .ref h11, .ref h12, .ref h13, .ref h14, .ref h15, .int 0, .int 0, .int 0, .ref h16, .ref h17, .int 0, .int 0, .int 0, .ref h18, .ref h19, .ref h20, .ref h21, .ref h22, .ref h23, .ref h24, .int 0, .ref h1, .int 0, .ref h25])), (h2, .inl (cI, 9, .inl (upd (upd (upd (fun _ => 0) (Int32.toNatClampNeg 3) 5) (Int32.toNatClampNeg 4) 9) (Int32.toNatClampNeg 7) 1)))]) [0, 1] (by decide) rfl
  refine va_callv (va_runV (As := [.int 0]) (rest := []) ⟨hx, hb, hml, hown, hts⟩ (k_X10_look_ l D cC cI cZ h0 h2 h3 h4 h5 h6 h7 h8 h9 h10 h11 h12 h13 h14 h15 h16 h17 h18 h19 h20 h21 h22 h23 h24 h1 h25 H.size ) (cwV (C := RX10) 1 hts (goodIn_app (goodIn_of _ (by decide +kernel)) gc_k_X10_isBlind_k_X10_look_) rfl rfl rfl (by decide +kernel) ⟨(Nat.le_of_ble_eq_true rfl), (Nat.le_of_ble_eq_true rfl)⟩) (kPreV hK hPc hDc (va_recv hK hPc (ci := 10) (q0 := 0) rfl rfl)) rfl rfl hl.1 rfl (lv_room (Nat.le_of_ble_eq_true rfl)) dX10_isBlind_31 ⟨(Nat.le_of_ble_eq_true rfl), (Nat.le_of_ble_eq_true rfl)⟩) hS (fun q _ h => False.elim h) (fun q h => False.elim h) (fun u t H1 locs ht hvm hw hB hz1 hk1 hS => ?_)
  have hP := hP.kept (H1 := H1) (fun k q hk => hk1 q.1 (hP k q hk).lt (fun h => h))
  generalize H1 = H at hP hS ⊢
  refine lv_iconst (v := 1) hx hb dX10_isBlind_34 (by decide) ?_
  refine lv_istore (lv' := [(5, .int 1), (4, .int 0), (3, .int 1), (0, .ref h0), (1, .ref h1), (2, .int 0)]) hx hb dX10_isBlind_35 hl (by decide) rfl (fun ls hl => ?_)
  refine lv_iconst (v := 0) hx hb dX10_isBlind_37 (by decide) ?_
  refine lv_istore (lv' := [(6, .int 0), (5, .int 1), (4, .int 0), (3, .int 1), (0, .ref h0), (1, .ref h1), (2, .int 0)]) hx hb dX10_isBlind_38 hl (by decide) rfl (fun ls hl => ?_)
  refine lv_iload hx hb dX10_isBlind_40 (lv_at hl 0 rfl) ?_
  refine lv_aload_n hx hb dX10_isBlind_42 rfl (lv_at hl 4 rfl) ?_
  refine va_get (D := D) (ci := 10) (v := .ref h2) (C := RX10) (T := TX10) (N := 34) hx hb hts iw_k_X10_isBlind_X10 hown hK hP 0 rfl rfl 1 (by decide) (hts (.fieldLink RX10 13 "TopTurnedModel" "told" "[I") (by decide +kernel)) (fun _ h9 => h9) rfl dX10_isBlind_43 ?_
  refine lv_iconst (v := 1) hx hb dX10_isBlind_46 (by decide) ?_
  refine va_iald (i := 1) hx hb hK hP 1 1 rfl rfl (vp_in_iff.mpr (by decide)) dX10_isBlind_47 ?_
  refine kt_eq (y := 0) (by decide +kernel) ?_
  refine lv_icmp_ge (tgt := 154) hx hb dX10_isBlind_48 (by decide) (fun _ => ?_) (fun c => absurd (by decide) c)
  refine lv_iload hx hb dX10_isBlind_154 (lv_at hl 1 rfl) ?_
  refine lv_if_eq (tgt := 282) hx hb dX10_isBlind_156 (by decide) (fun c => absurd c (by decide)) (fun _ => ?_)
  refine lv_iconst (v := 0) hx hb dX10_isBlind_159 (by decide) ?_
  refine lv_istore (lv' := [(6, .int 0), (5, .int 1), (4, .int 0), (3, .int 1), (0, .ref h0), (1, .ref h1), (2, .int 0)]) hx hb dX10_isBlind_160 hl (by decide) rfl (fun ls hl => ?_)
  refine lv_iload hx hb dX10_isBlind_162 (lv_at hl 0 rfl) ?_
  refine lv_aload_n hx hb dX10_isBlind_164 rfl (lv_at hl 4 rfl) ?_
  refine va_get (D := D) (ci := 10) (v := .ref h2) (C := RX10) (T := TX10) (N := 34) hx hb hts iw_k_X10_isBlind_X10 hown hK hP 0 rfl rfl 1 (by decide) (hts (.fieldLink RX10 13 "TopTurnedModel" "told" "[I") (by decide +kernel)) (fun _ h9 => h9) rfl dX10_isBlind_165 ?_
  refine lv_iconst (v := 0) hx hb dX10_isBlind_168 (by decide) ?_
  refine va_iald (i := 0) hx hb hK hP 1 1 rfl rfl (vp_in_iff.mpr (by decide)) dX10_isBlind_169 ?_
  refine kt_eq (y := 0) (by decide +kernel) ?_
  refine lv_icmp_ge (tgt := 240) hx hb dX10_isBlind_170 (by decide) (fun _ => ?_) (fun c => absurd (by decide) c)
  refine lv_iconst (v := 0) hx hb dX10_isBlind_240 (by decide) ?_
  refine lv_istore (lv' := [(6, .int 0), (5, .int 1), (4, .int 0), (3, .int 1), (0, .ref h0), (1, .ref h1), (2, .int 0)]) hx hb dX10_isBlind_241 hl (by decide) rfl (fun ls hl => ?_)
  refine lv_iload hx hb dX10_isBlind_243 (lv_at hl 0 rfl) ?_
  refine lv_iload_n hx hb dX10_isBlind_245 rfl (lv_at hl 6 rfl) ?_
  refine lv_icmp_ge (tgt := 273) hx hb dX10_isBlind_246 (by decide) (fun _ => ?_) (fun c => absurd (by decide) c)
  refine lv_aload_n hx hb dX10_isBlind_273 rfl (lv_at hl 4 rfl) ?_
  have hPc := hP.sub (ws' := [(h0, .inr (10, [.ref h3, .ref h2, .ref h4, .ref h5, .ref h6, .ref h7, .ref h8, .int 0, .ref h9, .ref h10, .ref h11, .ref h12, .ref h13, .ref h14, .ref h15, .int 0, .int 0, .int 0, .ref h16, .ref h17, .int 0, .int 0, .int 0, .ref h18, .ref h19, .ref h20, .ref h21, .ref h22, .ref h23, .ref h24, .int 0, .ref h1, .int 0, .ref h25])), (h2, .inl (cI, 9, .inl (upd (upd (upd (fun _ => 0) (Int32.toNatClampNeg 3) 5) (Int32.toNatClampNeg 4) 9) (Int32.toNatClampNeg 7) 1)))]) [0, 1] rfl
  have hDc := hD.sub (ws' := [(h0, .inr (10, [.ref h3, .ref h2, .ref h4, .ref h5, .ref h6, .ref h7, .ref h8, .int 0, .ref h9, .ref h10, .ref h11, .ref h12, .ref h13, .ref h14, .ref h15, .int 0, .int 0, .int 0, .ref h16, .ref h17, .int 0, .int 0, .int 0, .ref h18, .ref h19, .ref h20, .ref h21, .ref h22, .ref h23, .ref h24, .int 0, .ref h1, .int 0, .ref h25])), (h2, .inl (cI, 9, .inl (upd (upd (upd (fun _ => 0) (Int32.toNatClampNeg 3) 5) (Int32.toNatClampNeg 4) 9) (Int32.toNatClampNeg 7) 1)))]) [0, 1] (by decide) rfl
  refine va_calli (va_runV (As := []) (rest := []) ⟨hx, hb, hml, hown, hts⟩ (k_X10_isSorted l D cC cI cZ h0 h2 h3 h4 h5 h6 h7 h8 h9 h10 h11 h12 h13 h14 h15 h16 h17 h18 h19 h20 h21 h22 h23 h24 h1 h25 H.size ) (cwV (C := RX10) 0 hts (goodIn_app (goodIn_of _ (by decide +kernel)) gc_k_X10_isBlind_k_X10_isSorted) rfl rfl rfl (by decide +kernel) ⟨(Nat.le_of_ble_eq_true rfl), (Nat.le_of_ble_eq_true rfl)⟩) (kPreV hK hPc hDc (va_recv hK hPc (ci := 10) (q0 := 0) rfl rfl)) rfl rfl hl.1 rfl (lv_room (Nat.le_of_ble_eq_true rfl)) dX10_isBlind_274 ⟨(Nat.le_of_ble_eq_true rfl), (Nat.le_of_ble_eq_true rfl)⟩) hS (fun q _ h => False.elim h) (fun q h => False.elim h) (fun r2 u t H1 locs ht hvm hw hB hz1 hk1 hS => ?_)
  have hP := hP.kept (H1 := H1) (fun k q hk => hk1 q.1 (hP k q hk).lt (fun h => h))
  generalize H1 = H at hP hS ⊢
  have hw : r2 = 1 := hw
  subst hw
  refine lv_if_ne (tgt := 282) hx hb dX10_isBlind_277 (by decide) (fun _ => ?_) (fun c => absurd c (by decide))
  refine lv_iinc (v := 1) (lv' := [(4, .int 1), (6, .int 0), (5, .int 1), (3, .int 1), (0, .ref h0), (1, .ref h1), (2, .int 0)]) hx hb dX10_isBlind_282 hl (k := 2) rfl (by decide) (by decide) rfl (fun ls hl => ?_)
  refine lv_goto (tgt := 15) hx hb dX10_isBlind_285 (by decide) ?_
  refine lv_iload hx hb dX10_isBlind_15 (lv_at hl 0 rfl) ?_
  refine lv_iload_n hx hb dX10_isBlind_17 rfl (lv_at hl 3 rfl) ?_
  refine lv_icmp_ge (tgt := 288) hx hb dX10_isBlind_18 (by decide) (fun _ => ?_) (fun c => absurd (by decide) c)
  refine lv_iconst (v := 1) hx hb dX10_isBlind_288 (by decide) ?_
  exact W.zret (v := 1) hx hb hr rfl (fun t ht hW => ⟨⟨1, (), rfl, rfl, trivial⟩, hS.F ht⟩) hS.2.2 dX10_isBlind_289
def sw_k_X10_blind : List Cond := .code yX10_blind cX10_blind 2 (some .int) :: (([.fieldLink RX10 217 "TopTurnedModel" "rows" "I", .fieldLink RX10 80 "TopTurnedModel" "row" "[I", .methodLink RX10 220 yX10_isBlind, .instanceMethod yX10_isBlind, .selects RX10 yX10_isBlind yX10_isBlind, .initialized RX10] : List Cond) ++ (wsX100 ++ (sw_k_X10_isBlind ++ (([] : List Cond)))))
theorem gd_k_X10_blind : ∀ w ∈ sw_k_X10_blind, (w.onTables && w.keeps) = true ∨ ∃ ty, w = .arrayClass ty := List.forall_mem_cons.mpr ⟨good_of_word rfl, List.forall_mem_append.mpr ⟨fun w h => good_of_word (List.all_eq_true.mp (by decide +kernel : (([.fieldLink RX10 217 "TopTurnedModel" "rows" "I", .fieldLink RX10 80 "TopTurnedModel" "row" "[I", .methodLink RX10 220 yX10_isBlind, .instanceMethod yX10_isBlind, .selects RX10 yX10_isBlind yX10_isBlind, .initialized RX10] : List Cond)).all goodWord = true) w h), List.forall_mem_append.mpr ⟨gw_X10, List.forall_mem_append.mpr ⟨gd_k_X10_isBlind, fun _ h => absurd h List.not_mem_nil⟩⟩⟩⟩
theorem iw_k_X10_blind_X10 : ∀ w ∈ wsX100, w ∈ sw_k_X10_blind := fun _ h => List.mem_cons_of_mem _ (List.mem_append_right _ (List.mem_append_left _ h))
theorem gc_k_X10_blind_k_X10_isBlind : GoodIn sw_k_X10_blind sw_k_X10_isBlind := fun w h => ⟨List.mem_cons_of_mem _ (List.mem_append_right _ (List.mem_append_right _ (List.mem_append_left _ h))), gd_k_X10_isBlind w h⟩
set_option maxHeartbeats 4000000 in
set_option maxRecDepth 100000 in
theorem k_X10_blind (l : Launch) (D : va_G) (cC cI cZ : ClassId) (h0 h1 h2 h3 h4 h5 h6 h7 h8 h9 h10 h11 h12 h13 h14 h15 h16 h17 h18 h19 h20 h21 h22 h23 h24 h25 : Nat) (sz : Nat) : Met l yX10_blind sw_k_X10_blind ({ frames := 6, cells := 0, slots := 0, locals := 300 }) (va_Pc [.ref h0] (kPre D cC cI cZ [(h0, .inr (10, [.ref h2, .ref h1, .ref h3, .ref h4, .ref h5, .ref h6, .ref h7, .int 0, .ref h8, .ref h9, .ref h10, .ref h11, .ref h12, .ref h13, .ref h14, .int 0, .int 0, .int 0, .ref h15, .ref h16, .int 0, .int 0, .int 0, .ref h17, .ref h18, .ref h19, .ref h20, .ref h21, .ref h22, .ref h23, .int 0, .ref h24, .int 0, .ref h25])), (h1, .inl (cI, 9, .inl (upd (upd (upd (fun _ => 0) (Int32.toNatClampNeg 3) 5) (Int32.toNatClampNeg 4) 9) (Int32.toNatClampNeg 7) 1)))] sz)) (va_Qi (fun (r : Int32) (_ : Unit) => r = 1) (fun _ _ => True) (va_A [(h0, .inr (10, [.ref h2, .ref h1, .ref h3, .ref h4, .ref h5, .ref h6, .ref h7, .int 0, .ref h8, .ref h9, .ref h10, .ref h11, .ref h12, .ref h13, .ref h14, .int 0, .int 0, .int 0, .ref h15, .ref h16, .int 0, .int 0, .int 0, .ref h17, .ref h18, .ref h19, .ref h20, .ref h21, .ref h22, .ref h23, .int 0, .ref h24, .int 0, .ref h25])), (h1, .inl (cI, 9, .inl (upd (upd (upd (fun _ => 0) (Int32.toNatClampNeg 3) 5) (Int32.toNatClampNeg 4) 9) (Int32.toNatClampNeg 7) 1)))] sz)) 0 0 (va_A [(h0, .inr (10, [.ref h2, .ref h1, .ref h3, .ref h4, .ref h5, .ref h6, .ref h7, .int 0, .ref h8, .ref h9, .ref h10, .ref h11, .ref h12, .ref h13, .ref h14, .int 0, .int 0, .int 0, .ref h15, .ref h16, .int 0, .int 0, .int 0, .ref h17, .ref h18, .ref h19, .ref h20, .ref h21, .ref h22, .ref h23, .int 0, .ref h24, .int 0, .ref h25])), (h1, .inl (cI, 9, .inl (upd (upd (upd (fun _ => 0) (Int32.toNatClampNeg 3) 5) (Int32.toNatClampNeg 4) 9) (Int32.toNatClampNeg 7) 1)))] sz) := by
  refine Met.ofW (cc := cX10_blind) (maxL := 2) (ret := (some .int)) (by decide) rfl ?_
  intro p e s m args below meth c s₁ B hml hv
  obtain ⟨rfl, hsz, hP, hK, hD0⟩ := hv
  have hx := B.exec
  have hb := B.bytes
  have hr := B.returns
  have hts := atoms_spec (ws := sw_k_X10_blind) B.pre
  have hown : s.vm.findClass RX10 = some m.cls := findClass_of_methodNamed B.named
  have hlocks := B.notSynchronized
  subst hsz
  have hD := hD0.self (sz := s.heap.size)
  generalize hAe : va_A [(h0, .inr (10, [.ref h2, .ref h1, .ref h3, .ref h4, .ref h5, .ref h6, .ref h7, .int 0, .ref h8, .ref h9, .ref h10, .ref h11, .ref h12, .ref h13, .ref h14, .int 0, .int 0, .int 0, .ref h15, .ref h16, .int 0, .int 0, .int 0, .ref h17, .ref h18, .ref h19, .ref h20, .ref h21, .ref h22, .ref h23, .int 0, .ref h24, .int 0, .ref h25])), (h1, .inl (cI, 9, .inl (upd (upd (upd (fun _ => 0) (Int32.toNatClampNeg 3) 5) (Int32.toNatClampNeg 4) 9) (Int32.toNatClampNeg 7) 1)))] s.heap.size = A at hD ⊢
  have hA : ∀ q : Nat, s.heap.size ≤ q → A q := fun q h => by rw [← hAe]; exact Or.inr h
  have hS : va_S A s.heap s.heap [] := va_S.rf
  have hl := lv_entry ([.ref h0]) (n := 2) (Nat.le_of_ble_eq_true rfl)
  rw [lg_entry_eq]
  generalize (lg_sl ([.ref h0]) ++ List.replicate (2 - (lg_sl ([.ref h0])).length) Slot.unset).toArray = ls at hl ⊢
  have hl : lv_has ls 2 [(0, .ref h0)] := hl
  refine lv_iconst (v := 0) hx hb dX10_blind_0 (by decide) ?_
  refine lv_istore_n (lv' := [(1, .int 0), (0, .ref h0)]) hx hb dX10_blind_1 rfl hl (by decide) rfl (fun ls hl => ?_)
  refine lv_iload_n hx hb dX10_blind_2 rfl (lv_at hl 0 rfl) ?_
  refine lv_aload_n hx hb dX10_blind_3 rfl (lv_at hl 1 rfl) ?_
  refine va_get (D := D) (ci := 10) (v := .int 0) (C := RX10) (T := TX10) (N := 34) hx hb hts iw_k_X10_blind_X10 hown hK hP 0 rfl rfl 32 (by decide) (hts (.fieldLink RX10 217 "TopTurnedModel" "rows" "I") (by decide +kernel)) (fun _ h9 => h9) rfl dX10_blind_4 ?_
  refine lv_icmp_ge (tgt := 48) hx hb dX10_blind_7 (by decide) (fun _ => ?_) (fun c => absurd (by decide) c)
  refine lv_aload_n hx hb dX10_blind_48 rfl (lv_at hl 1 rfl) ?_
  refine lv_aload_n hx hb dX10_blind_49 rfl (lv_at hl 1 rfl) ?_
  refine va_get (D := D) (ci := 10) (v := .ref h24) (C := RX10) (T := TX10) (N := 34) hx hb hts iw_k_X10_blind_X10 hown hK hP 0 rfl rfl 31 (by decide) (hts (.fieldLink RX10 80 "TopTurnedModel" "row" "[I") (by decide +kernel)) (fun _ h9 => h9) rfl dX10_blind_50 ?_
  refine lv_aload_n hx hb dX10_blind_53 rfl (lv_at hl 1 rfl) ?_
  refine va_get (D := D) (ci := 10) (v := .int 0) (C := RX10) (T := TX10) (N := 34) hx hb hts iw_k_X10_blind_X10 hown hK hP 0 rfl rfl 32 (by decide) (hts (.fieldLink RX10 217 "TopTurnedModel" "rows" "I") (by decide +kernel)) (fun _ h9 => h9) rfl dX10_blind_54 ?_
  have hPc := hP.sub (ws' := [(h0, .inr (10, [.ref h2, .ref h1, .ref h3, .ref h4, .ref h5, .ref h6, .ref h7, .int 0, .ref h8, .ref h9, .ref h10, .ref h11, .ref h12, .ref h13, .ref h14, .int 0, .int 0, .int 0, .ref h15, .ref h16, .int 0, .int 0, .int 0, .ref h17, .ref h18, .ref h19, .ref h20, .ref h21, .ref h22, .ref h23, .int 0, .ref h24, .int 0, .ref h25])), (h1, .inl (cI, 9, .inl (upd (upd (upd (fun _ => 0) (Int32.toNatClampNeg 3) 5) (Int32.toNatClampNeg 4) 9) (Int32.toNatClampNeg 7) 1)))]) [0, 1] rfl
  have hDc := hD.sub (ws' := [(h0, .inr (10, [.ref h2, .ref h1, .ref h3, .ref h4, .ref h5, .ref h6, .ref h7, .int 0, .ref h8, .ref h9, .ref h10, .ref h11, .ref h12, .ref h13, .ref h14, .int 0, .int 0, .int 0, .ref h15, .ref h16, .int 0, .int 0, .int 0, .ref h17, .ref h18, .ref h19, .ref h20, .ref h21, .ref h22, .ref h23, .int 0, .ref h24, .int 0, .ref h25])), (h1, .inl (cI, 9, .inl (upd (upd (upd (fun _ => 0) (Int32.toNatClampNeg 3) 5) (Int32.toNatClampNeg 4) 9) (Int32.toNatClampNeg 7) 1)))]) [0, 1] (by decide) rfl
  refine va_calli (va_runV (As := [.ref h24, .int 0]) (rest := []) ⟨hx, hb, hml, hown, hts⟩ (k_X10_isBlind l D cC cI cZ h0 h24 h1 h2 h3 h4 h5 h6 h7 h8 h9 h10 h11 h12 h13 h14 h15 h16 h17 h18 h19 h20 h21 h22 h23 h25 s.heap.size ) (cwV (C := RX10) 2 hts (goodIn_app (goodIn_of _ (by decide +kernel)) gc_k_X10_blind_k_X10_isBlind) rfl rfl rfl (by decide +kernel) ⟨(Nat.le_of_ble_eq_true rfl), (Nat.le_of_ble_eq_true rfl)⟩) (kPreV hK hPc hDc (va_recv hK hPc (ci := 10) (q0 := 0) rfl rfl)) rfl rfl hl.1 rfl (lv_room (Nat.le_of_ble_eq_true rfl)) dX10_blind_57 ⟨(Nat.le_of_ble_eq_true rfl), (Nat.le_of_ble_eq_true rfl)⟩) hS (fun q _ h => False.elim h) (fun q h => False.elim h) (fun r1 u t H1 locs ht hvm hw hB hz1 hk1 hS => ?_)
  have hP := hP.kept (H1 := H1) (fun k q hk => hk1 q.1 (hP k q hk).lt (fun h => h))
  generalize H1 = H at hP hS ⊢
  have hw : r1 = 1 := hw
  subst hw
  refine lv_istore_n (lv' := [(1, .int 1), (0, .ref h0)]) hx hb dX10_blind_60 rfl hl (by decide) rfl (fun ls hl => ?_)
  refine lv_aload_n hx hb dX10_blind_61 rfl (lv_at hl 1 rfl) ?_
  refine lv_iconst (v := 0) hx hb dX10_blind_62 (by decide) ?_
  refine va_put (D := D) (ci := 10) (v := .int 0) (ty := .int) (C := RX10) (T := TX10) (N := 34) hx hb hts iw_k_X10_blind_X10 tyX10 tyX10_ok nmX10 hown hK hP hD hS 0 rfl rfl 32 (by decide) (hts (.fieldLink RX10 217 "TopTurnedModel" "rows" "I") (by decide +kernel)) (fun _ h9 => h9) rfl (by decide +kernel) rfl rfl (Nat.le_of_ble_eq_true rfl) dX10_blind_63 (fun H locs hP hD hS => ?_)
  have hP : va_P D vwCl [(h0, .inr (10, [.ref h2, .ref h1, .ref h3, .ref h4, .ref h5, .ref h6, .ref h7, .int 0, .ref h8, .ref h9, .ref h10, .ref h11, .ref h12, .ref h13, .ref h14, .int 0, .int 0, .int 0, .ref h15, .ref h16, .int 0, .int 0, .int 0, .ref h17, .ref h18, .ref h19, .ref h20, .ref h21, .ref h22, .ref h23, .int 0, .ref h24, .int 0, .ref h25])), (h1, .inl (cI, 9, .inl (upd (upd (upd (fun _ => 0) (Int32.toNatClampNeg 3) 5) (Int32.toNatClampNeg 4) 9) (Int32.toNatClampNeg 7) 1)))] H := hP
  have hD : va_D A [(h0, .inr (10, [.ref h2, .ref h1, .ref h3, .ref h4, .ref h5, .ref h6, .ref h7, .int 0, .ref h8, .ref h9, .ref h10, .ref h11, .ref h12, .ref h13, .ref h14, .int 0, .int 0, .int 0, .ref h15, .ref h16, .int 0, .int 0, .int 0, .ref h17, .ref h18, .ref h19, .ref h20, .ref h21, .ref h22, .ref h23, .int 0, .ref h24, .int 0, .ref h25])), (h1, .inl (cI, 9, .inl (upd (upd (upd (fun _ => 0) (Int32.toNatClampNeg 3) 5) (Int32.toNatClampNeg 4) 9) (Int32.toNatClampNeg 7) 1)))] := hD
  refine lv_iload_n hx hb dX10_blind_66 rfl (lv_at hl 0 rfl) ?_
  refine lv_if_eq (tgt := 74) hx hb dX10_blind_67 (by decide) (fun c => absurd c (by decide)) (fun _ => ?_)
  refine lv_iconst (v := 1) hx hb dX10_blind_70 (by decide) ?_
  refine lv_goto (tgt := 75) hx hb dX10_blind_71 (by decide) ?_
  refine W.widen (k := 0) (n := 0) (Nat.le_of_ble_eq_true rfl) (Nat.le_of_ble_eq_true rfl) ?_
  exact W.iret (v := 1) hx hb hr (fun t ht hW => ⟨⟨1, (), rfl, rfl, trivial⟩, hS.F ht⟩) hS.2.2 dX10_blind_75
def sw_k_X10_isBlind_1 : List Cond := .code yX10_isBlind cX10_isBlind 10 (some .boolean) :: (([.methodLink RX10 190 yX10_many, .instanceMethod yX10_many, .selects RX10 yX10_many yX10_many, .initialized RX10, .fieldLink RX10 13 "TopTurnedModel" "told" "[I", .methodLink RX10 184 yX10_look_, .instanceMethod yX10_look_, .selects RX10 yX10_look_ yX10_look_, .methodLink RX10 174 yX10_isSorted, .instanceMethod yX10_isSorted, .selects RX10 yX10_isSorted yX10_isSorted] : List Cond) ++ (sw_k_X10_many ++ (wsX100 ++ (sw_k_X10_look_ ++ (sw_k_X10_isSorted ++ (([] : List Cond)))))))
theorem gd_k_X10_isBlind_1 : ∀ w ∈ sw_k_X10_isBlind_1, (w.onTables && w.keeps) = true ∨ ∃ ty, w = .arrayClass ty := List.forall_mem_cons.mpr ⟨good_of_word rfl, List.forall_mem_append.mpr ⟨fun w h => good_of_word (List.all_eq_true.mp (by decide +kernel : (([.methodLink RX10 190 yX10_many, .instanceMethod yX10_many, .selects RX10 yX10_many yX10_many, .initialized RX10, .fieldLink RX10 13 "TopTurnedModel" "told" "[I", .methodLink RX10 184 yX10_look_, .instanceMethod yX10_look_, .selects RX10 yX10_look_ yX10_look_, .methodLink RX10 174 yX10_isSorted, .instanceMethod yX10_isSorted, .selects RX10 yX10_isSorted yX10_isSorted] : List Cond)).all goodWord = true) w h), List.forall_mem_append.mpr ⟨gd_k_X10_many, List.forall_mem_append.mpr ⟨gw_X10, List.forall_mem_append.mpr ⟨gd_k_X10_look_, List.forall_mem_append.mpr ⟨gd_k_X10_isSorted, fun _ h => absurd h List.not_mem_nil⟩⟩⟩⟩⟩⟩
theorem gc_k_X10_isBlind_1_k_X10_many : GoodIn sw_k_X10_isBlind_1 sw_k_X10_many := fun w h => ⟨List.mem_cons_of_mem _ (List.mem_append_right _ (List.mem_append_left _ h)), gd_k_X10_many w h⟩
theorem iw_k_X10_isBlind_1_X10 : ∀ w ∈ wsX100, w ∈ sw_k_X10_isBlind_1 := fun _ h => List.mem_cons_of_mem _ (List.mem_append_right _ (List.mem_append_right _ (List.mem_append_left _ h)))
theorem gc_k_X10_isBlind_1_k_X10_look_ : GoodIn sw_k_X10_isBlind_1 sw_k_X10_look_ := fun w h => ⟨List.mem_cons_of_mem _ (List.mem_append_right _ (List.mem_append_right _ (List.mem_append_right _ (List.mem_append_left _ h)))), gd_k_X10_look_ w h⟩
theorem gc_k_X10_isBlind_1_k_X10_isSorted : GoodIn sw_k_X10_isBlind_1 sw_k_X10_isSorted := fun w h => ⟨List.mem_cons_of_mem _ (List.mem_append_right _ (List.mem_append_right _ (List.mem_append_right _ (List.mem_append_right _ (List.mem_append_left _ h))))), gd_k_X10_isSorted w h⟩
set_option maxHeartbeats 4000000 in
set_option maxRecDepth 100000 in
theorem k_X10_isBlind_1 (l : Launch) (D : va_G) (cC cI cZ : ClassId) (h0 h1 h2 h3 h4 h5 h6 h7 h8 h9 h10 h11 h12 h13 h14 h15 h16 h17 h18 h19 h20 h21 h22 h23 h24 h25 : Nat) (sz : Nat) : Met l yX10_isBlind sw_k_X10_isBlind_1 ({ frames := 4, cells := 0, slots := 0, locals := 200 }) (va_Pc [.ref h0, .ref h1, .int 0] (kPre D cC cI cZ [(h0, .inr (10, [.ref h3, .ref h2, .ref h4, .ref h5, .ref h6, .ref h7, .ref h8, .int 0, .ref h9, .ref h10, .ref h11, .ref h12, .ref h13, .ref h14, .ref h15, .int 0, .int 0, .int 0, .ref h16, .ref h17, .int 0, .int 0, .int 0, .ref h18, .ref h19, .ref h20, .ref h21, .ref h22, .ref h23, .ref h24, .int 0, .ref h25, .int 0, .ref h1])), (h2, .inl (cI, 9, .inl (upd (upd (upd (fun _ => 0) (Int32.toNatClampNeg 3) 5) (Int32.toNatClampNeg 4) 9) (Int32.toNatClampNeg 7) 1)))] sz)) (va_Qi (fun (r : Int32) (_ : Unit) => r = 1) (fun _ _ => True) (fun _ => False)) 0 0 (fun _ => False) := by
  refine Met.ofW (cc := cX10_isBlind) (maxL := 10) (ret := (some .boolean)) (by decide) rfl ?_
  intro p e s m args below meth c s₁ B hml hv
  obtain ⟨rfl, hsz, hP, hK, hD0⟩ := hv
  have hx := B.exec
  have hb := B.bytes
  have hr := B.returns
  have hts := atoms_spec (ws := sw_k_X10_isBlind_1) B.pre
  have hown : s.vm.findClass RX10 = some m.cls := findClass_of_methodNamed B.named
  have hlocks := B.notSynchronized
  subst hsz
  have hD := hD0
  have hS : va_S (fun _ => False) s.heap s.heap [] := va_S.rf
  have hl := lv_entry ([.ref h0, .ref h1, .int 0]) (n := 10) (Nat.le_of_ble_eq_true rfl)
  rw [lg_entry_eq]
  generalize (lg_sl ([.ref h0, .ref h1, .int 0]) ++ List.replicate (10 - (lg_sl ([.ref h0, .ref h1, .int 0])).length) Slot.unset).toArray = ls at hl ⊢
  have hl : lv_has ls 10 [(0, .ref h0), (1, .ref h1), (2, .int 0)] := hl
  refine lv_aload_n hx hb dX10_isBlind_0 rfl (lv_at hl 0 rfl) ?_
  have hPc := hP.sub (ws' := [(h0, .inr (10, [.ref h3, .ref h2, .ref h4, .ref h5, .ref h6, .ref h7, .ref h8, .int 0, .ref h9, .ref h10, .ref h11, .ref h12, .ref h13, .ref h14, .ref h15, .int 0, .int 0, .int 0, .ref h16, .ref h17, .int 0, .int 0, .int 0, .ref h18, .ref h19, .ref h20, .ref h21, .ref h22, .ref h23, .ref h24, .int 0, .ref h25, .int 0, .ref h1])), (h2, .inl (cI, 9, .inl (upd (upd (upd (fun _ => 0) (Int32.toNatClampNeg 3) 5) (Int32.toNatClampNeg 4) 9) (Int32.toNatClampNeg 7) 1)))]) [0, 1] rfl
  have hDc := hD.sub (ws' := [(h0, .inr (10, [.ref h3, .ref h2, .ref h4, .ref h5, .ref h6, .ref h7, .ref h8, .int 0, .ref h9, .ref h10, .ref h11, .ref h12, .ref h13, .ref h14, .ref h15, .int 0, .int 0, .int 0, .ref h16, .ref h17, .int 0, .int 0, .int 0, .ref h18, .ref h19, .ref h20, .ref h21, .ref h22, .ref h23, .ref h24, .int 0, .ref h25, .int 0, .ref h1])), (h2, .inl (cI, 9, .inl (upd (upd (upd (fun _ => 0) (Int32.toNatClampNeg 3) 5) (Int32.toNatClampNeg 4) 9) (Int32.toNatClampNeg 7) 1)))]) [0, 1] (by decide) rfl
  refine va_calli (va_runV (As := []) (rest := []) ⟨hx, hb, hml, hown, hts⟩ (k_X10_many l D cC cI cZ h0 h2 h3 h4 h5 h6 h7 h8 h9 h10 h11 h12 h13 h14 h15 h16 h17 h18 h19 h20 h21 h22 h23 h24 h25 h1 s.heap.size ) (cwV (C := RX10) 0 hts (goodIn_app (goodIn_of _ (by decide +kernel)) gc_k_X10_isBlind_1_k_X10_many) rfl rfl rfl (by decide +kernel) ⟨(Nat.le_of_ble_eq_true rfl), (Nat.le_of_ble_eq_true rfl)⟩) (kPreV hK hPc hDc (va_recv hK hPc (ci := 10) (q0 := 0) rfl rfl)) rfl rfl hl.1 rfl (lv_room (Nat.le_of_ble_eq_true rfl)) dX10_isBlind_1 ⟨(Nat.le_of_ble_eq_true rfl), (Nat.le_of_ble_eq_true rfl)⟩) hS (fun q _ h => False.elim h) (fun q h => False.elim h) (fun r1 u t H1 locs ht hvm hw hB hz1 hk1 hS => ?_)
  have hP := hP.kept (H1 := H1) (fun k q hk => hk1 q.1 (hP k q hk).lt (fun h => h))
  generalize H1 = H at hP hS ⊢
  have hw : r1 = 1 := hw
  subst hw
  refine lv_aload_n hx hb dX10_isBlind_4 rfl (lv_at hl 0 rfl) ?_
  refine va_get (D := D) (ci := 10) (v := .ref h2) (C := RX10) (T := TX10) (N := 34) hx hb hts iw_k_X10_isBlind_1_X10 hown hK hP 0 rfl rfl 1 (by decide) (hts (.fieldLink RX10 13 "TopTurnedModel" "told" "[I") (by decide +kernel)) (fun _ h9 => h9) rfl dX10_isBlind_5 ?_
  refine lv_iconst (v := 0) hx hb dX10_isBlind_8 (by decide) ?_
  refine va_iald (i := 0) hx hb hK hP 1 1 rfl rfl (vp_in_iff.mpr (by decide)) dX10_isBlind_9 ?_
  refine kt_eq (y := 0) (by decide +kernel) ?_
  refine lv_ishr hx hb dX10_isBlind_10 ?_
  refine kt_eq (y := 1) (by decide +kernel) ?_
  refine lv_istore_n (lv' := [(3, .int 1), (0, .ref h0), (1, .ref h1), (2, .int 0)]) hx hb dX10_isBlind_11 rfl hl (by decide) rfl (fun ls hl => ?_)
  refine lv_iconst (v := 0) hx hb dX10_isBlind_12 (by decide) ?_
  refine lv_istore (lv' := [(4, .int 0), (3, .int 1), (0, .ref h0), (1, .ref h1), (2, .int 0)]) hx hb dX10_isBlind_13 hl (by decide) rfl (fun ls hl => ?_)
  refine lv_iload hx hb dX10_isBlind_15 (lv_at hl 0 rfl) ?_
  refine lv_iload_n hx hb dX10_isBlind_17 rfl (lv_at hl 1 rfl) ?_
  refine lv_icmp_ge (tgt := 288) hx hb dX10_isBlind_18 (by decide) (fun c => absurd c (by decide)) (fun _ => ?_)
  refine lv_aload_n hx hb dX10_isBlind_21 rfl (lv_at hl 2 rfl) ?_
  refine lv_iload hx hb dX10_isBlind_22 (lv_at hl 0 rfl) ?_
  refine lv_aload_n hx hb dX10_isBlind_24 rfl (lv_at hl 2 rfl) ?_
  refine va_get (D := D) (ci := 10) (v := .ref h2) (C := RX10) (T := TX10) (N := 34) hx hb hts iw_k_X10_isBlind_1_X10 hown hK hP 0 rfl rfl 1 (by decide) (hts (.fieldLink RX10 13 "TopTurnedModel" "told" "[I") (by decide +kernel)) (fun _ h9 => h9) rfl dX10_isBlind_25 ?_
  refine lv_iconst (v := 0) hx hb dX10_isBlind_28 (by decide) ?_
  refine va_iald (i := 0) hx hb hK hP 1 1 rfl rfl (vp_in_iff.mpr (by decide)) dX10_isBlind_29 ?_
  refine kt_eq (y := 0) (by decide +kernel) ?_
  refine lv_ishl hx hb dX10_isBlind_30 ?_
  refine kt_eq (y := 0) (by decide +kernel) ?_
  have hPc := hP.sub (ws' := [(h0, .inr (10, [.ref h3, .ref h2, .ref h4, .ref h5, .ref h6, .ref h7, .ref h8, .int 0, .ref h9, .ref h10, .ref h11, .ref h12, .ref h13, .ref h14, .ref h15, .int 0, .int 0, .int 0, .ref h16, .ref h17, .int 0, .int 0, .int 0, .ref h18, .ref h19, .ref h20, .ref h21, .ref h22, .ref h23, .ref h24, .int 0, .ref h25, .int 0, .ref h1])), (h2, .inl (cI, 9, .inl (upd (upd (upd (fun _ => 0) (Int32.toNatClampNeg 3) 5) (Int32.toNatClampNeg 4) 9) (Int32.toNatClampNeg 7) 1)))]) [0, 1] rfl
  have hDc := hD.sub (ws' := [(h0, .inr (10, [.ref h3, .ref h2, .ref h4, .ref h5, .ref h6, .ref h7, .ref h8, .int 0, .ref h9, .ref h10, .ref h11, .ref h12, .ref h13, .ref h14, .ref h15, .int 0, .int 0, .int 0, .ref h16, .ref h17, .int 0, .int 0, .int 0, .ref h18, .ref h19, .ref h20, .ref h21, .ref h22, .ref h23, .ref h24, .int 0, .ref h25, .int 0, .ref h1])), (h2, .inl (cI, 9, .inl (upd (upd (upd (fun _ => 0) (Int32.toNatClampNeg 3) 5) (Int32.toNatClampNeg 4) 9) (Int32.toNatClampNeg 7) 1)))]) [0, 1] (by decide) rfl
  refine va_callv (va_runV (As := [.int 0]) (rest := []) ⟨hx, hb, hml, hown, hts⟩ (k_X10_look_ l D cC cI cZ h0 h2 h3 h4 h5 h6 h7 h8 h9 h10 h11 h12 h13 h14 h15 h16 h17 h18 h19 h20 h21 h22 h23 h24 h25 h1 H.size ) (cwV (C := RX10) 1 hts (goodIn_app (goodIn_of _ (by decide +kernel)) gc_k_X10_isBlind_1_k_X10_look_) rfl rfl rfl (by decide +kernel) ⟨(Nat.le_of_ble_eq_true rfl), (Nat.le_of_ble_eq_true rfl)⟩) (kPreV hK hPc hDc (va_recv hK hPc (ci := 10) (q0 := 0) rfl rfl)) rfl rfl hl.1 rfl (lv_room (Nat.le_of_ble_eq_true rfl)) dX10_isBlind_31 ⟨(Nat.le_of_ble_eq_true rfl), (Nat.le_of_ble_eq_true rfl)⟩) hS (fun q _ h => False.elim h) (fun q h => False.elim h) (fun u t H1 locs ht hvm hw hB hz1 hk1 hS => ?_)
  have hP := hP.kept (H1 := H1) (fun k q hk => hk1 q.1 (hP k q hk).lt (fun h => h))
  generalize H1 = H at hP hS ⊢
  refine lv_iconst (v := 1) hx hb dX10_isBlind_34 (by decide) ?_
  refine lv_istore (lv' := [(5, .int 1), (4, .int 0), (3, .int 1), (0, .ref h0), (1, .ref h1), (2, .int 0)]) hx hb dX10_isBlind_35 hl (by decide) rfl (fun ls hl => ?_)
  refine lv_iconst (v := 0) hx hb dX10_isBlind_37 (by decide) ?_
  refine lv_istore (lv' := [(6, .int 0), (5, .int 1), (4, .int 0), (3, .int 1), (0, .ref h0), (1, .ref h1), (2, .int 0)]) hx hb dX10_isBlind_38 hl (by decide) rfl (fun ls hl => ?_)
  refine lv_iload hx hb dX10_isBlind_40 (lv_at hl 0 rfl) ?_
  refine lv_aload_n hx hb dX10_isBlind_42 rfl (lv_at hl 4 rfl) ?_
  refine va_get (D := D) (ci := 10) (v := .ref h2) (C := RX10) (T := TX10) (N := 34) hx hb hts iw_k_X10_isBlind_1_X10 hown hK hP 0 rfl rfl 1 (by decide) (hts (.fieldLink RX10 13 "TopTurnedModel" "told" "[I") (by decide +kernel)) (fun _ h9 => h9) rfl dX10_isBlind_43 ?_
  refine lv_iconst (v := 1) hx hb dX10_isBlind_46 (by decide) ?_
  refine va_iald (i := 1) hx hb hK hP 1 1 rfl rfl (vp_in_iff.mpr (by decide)) dX10_isBlind_47 ?_
  refine kt_eq (y := 0) (by decide +kernel) ?_
  refine lv_icmp_ge (tgt := 154) hx hb dX10_isBlind_48 (by decide) (fun _ => ?_) (fun c => absurd (by decide) c)
  refine lv_iload hx hb dX10_isBlind_154 (lv_at hl 1 rfl) ?_
  refine lv_if_eq (tgt := 282) hx hb dX10_isBlind_156 (by decide) (fun c => absurd c (by decide)) (fun _ => ?_)
  refine lv_iconst (v := 0) hx hb dX10_isBlind_159 (by decide) ?_
  refine lv_istore (lv' := [(6, .int 0), (5, .int 1), (4, .int 0), (3, .int 1), (0, .ref h0), (1, .ref h1), (2, .int 0)]) hx hb dX10_isBlind_160 hl (by decide) rfl (fun ls hl => ?_)
  refine lv_iload hx hb dX10_isBlind_162 (lv_at hl 0 rfl) ?_
  refine lv_aload_n hx hb dX10_isBlind_164 rfl (lv_at hl 4 rfl) ?_
  refine va_get (D := D) (ci := 10) (v := .ref h2) (C := RX10) (T := TX10) (N := 34) hx hb hts iw_k_X10_isBlind_1_X10 hown hK hP 0 rfl rfl 1 (by decide) (hts (.fieldLink RX10 13 "TopTurnedModel" "told" "[I") (by decide +kernel)) (fun _ h9 => h9) rfl dX10_isBlind_165 ?_
  refine lv_iconst (v := 0) hx hb dX10_isBlind_168 (by decide) ?_
  refine va_iald (i := 0) hx hb hK hP 1 1 rfl rfl (vp_in_iff.mpr (by decide)) dX10_isBlind_169 ?_
  refine kt_eq (y := 0) (by decide +kernel) ?_
  refine lv_icmp_ge (tgt := 240) hx hb dX10_isBlind_170 (by decide) (fun _ => ?_) (fun c => absurd (by decide) c)
  refine lv_iconst (v := 0) hx hb dX10_isBlind_240 (by decide) ?_
  refine lv_istore (lv' := [(6, .int 0), (5, .int 1), (4, .int 0), (3, .int 1), (0, .ref h0), (1, .ref h1), (2, .int 0)]) hx hb dX10_isBlind_241 hl (by decide) rfl (fun ls hl => ?_)
  refine lv_iload hx hb dX10_isBlind_243 (lv_at hl 0 rfl) ?_
  refine lv_iload_n hx hb dX10_isBlind_245 rfl (lv_at hl 6 rfl) ?_
  refine lv_icmp_ge (tgt := 273) hx hb dX10_isBlind_246 (by decide) (fun _ => ?_) (fun c => absurd (by decide) c)
  refine lv_aload_n hx hb dX10_isBlind_273 rfl (lv_at hl 4 rfl) ?_
  have hPc := hP.sub (ws' := [(h0, .inr (10, [.ref h3, .ref h2, .ref h4, .ref h5, .ref h6, .ref h7, .ref h8, .int 0, .ref h9, .ref h10, .ref h11, .ref h12, .ref h13, .ref h14, .ref h15, .int 0, .int 0, .int 0, .ref h16, .ref h17, .int 0, .int 0, .int 0, .ref h18, .ref h19, .ref h20, .ref h21, .ref h22, .ref h23, .ref h24, .int 0, .ref h25, .int 0, .ref h1])), (h2, .inl (cI, 9, .inl (upd (upd (upd (fun _ => 0) (Int32.toNatClampNeg 3) 5) (Int32.toNatClampNeg 4) 9) (Int32.toNatClampNeg 7) 1)))]) [0, 1] rfl
  have hDc := hD.sub (ws' := [(h0, .inr (10, [.ref h3, .ref h2, .ref h4, .ref h5, .ref h6, .ref h7, .ref h8, .int 0, .ref h9, .ref h10, .ref h11, .ref h12, .ref h13, .ref h14, .ref h15, .int 0, .int 0, .int 0, .ref h16, .ref h17, .int 0, .int 0, .int 0, .ref h18, .ref h19, .ref h20, .ref h21, .ref h22, .ref h23, .ref h24, .int 0, .ref h25, .int 0, .ref h1])), (h2, .inl (cI, 9, .inl (upd (upd (upd (fun _ => 0) (Int32.toNatClampNeg 3) 5) (Int32.toNatClampNeg 4) 9) (Int32.toNatClampNeg 7) 1)))]) [0, 1] (by decide) rfl
  refine va_calli (va_runV (As := []) (rest := []) ⟨hx, hb, hml, hown, hts⟩ (k_X10_isSorted l D cC cI cZ h0 h2 h3 h4 h5 h6 h7 h8 h9 h10 h11 h12 h13 h14 h15 h16 h17 h18 h19 h20 h21 h22 h23 h24 h25 h1 H.size ) (cwV (C := RX10) 0 hts (goodIn_app (goodIn_of _ (by decide +kernel)) gc_k_X10_isBlind_1_k_X10_isSorted) rfl rfl rfl (by decide +kernel) ⟨(Nat.le_of_ble_eq_true rfl), (Nat.le_of_ble_eq_true rfl)⟩) (kPreV hK hPc hDc (va_recv hK hPc (ci := 10) (q0 := 0) rfl rfl)) rfl rfl hl.1 rfl (lv_room (Nat.le_of_ble_eq_true rfl)) dX10_isBlind_274 ⟨(Nat.le_of_ble_eq_true rfl), (Nat.le_of_ble_eq_true rfl)⟩) hS (fun q _ h => False.elim h) (fun q h => False.elim h) (fun r2 u t H1 locs ht hvm hw hB hz1 hk1 hS => ?_)
  have hP := hP.kept (H1 := H1) (fun k q hk => hk1 q.1 (hP k q hk).lt (fun h => h))
  generalize H1 = H at hP hS ⊢
  have hw : r2 = 1 := hw
  subst hw
  refine lv_if_ne (tgt := 282) hx hb dX10_isBlind_277 (by decide) (fun _ => ?_) (fun c => absurd c (by decide))
  refine lv_iinc (v := 1) (lv' := [(4, .int 1), (6, .int 0), (5, .int 1), (3, .int 1), (0, .ref h0), (1, .ref h1), (2, .int 0)]) hx hb dX10_isBlind_282 hl (k := 2) rfl (by decide) (by decide) rfl (fun ls hl => ?_)
  refine lv_goto (tgt := 15) hx hb dX10_isBlind_285 (by decide) ?_
  refine lv_iload hx hb dX10_isBlind_15 (lv_at hl 0 rfl) ?_
  refine lv_iload_n hx hb dX10_isBlind_17 rfl (lv_at hl 3 rfl) ?_
  refine lv_icmp_ge (tgt := 288) hx hb dX10_isBlind_18 (by decide) (fun _ => ?_) (fun c => absurd (by decide) c)
  refine lv_iconst (v := 1) hx hb dX10_isBlind_288 (by decide) ?_
  exact W.zret (v := 1) hx hb hr rfl (fun t ht hW => ⟨⟨1, (), rfl, rfl, trivial⟩, hS.F ht⟩) hS.2.2 dX10_isBlind_289
