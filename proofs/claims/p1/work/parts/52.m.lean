def sw_k_X10_oneOf : List Cond := .code yX10_oneOf cX10_oneOf 4 (some .int) :: (([.fieldLink RX10 105 "TopTurnedModel" "well" "Z", .methodLink RX10 108 yX10_comes, .instanceMethod yX10_comes, .selects RX10 yX10_comes yX10_comes, .initialized RX10] : List Cond) ++ (wsX100 ++ (sw_k_X10_comes ++ (sw_k_X10_comes_1 ++ (sw_k_X10_comes_2 ++ (sw_k_X10_comes_3 ++ (sw_k_X10_comes_4 ++ (sw_k_X10_comes_5 ++ (sw_k_X10_comes_6 ++ (([] : List Cond)))))))))))
theorem gd_k_X10_oneOf : ∀ w ∈ sw_k_X10_oneOf, (w.onTables && w.keeps) = true ∨ ∃ ty, w = .arrayClass ty := List.forall_mem_cons.mpr ⟨good_of_word rfl, List.forall_mem_append.mpr ⟨fun w h => good_of_word (List.all_eq_true.mp (by decide +kernel : (([.fieldLink RX10 105 "TopTurnedModel" "well" "Z", .methodLink RX10 108 yX10_comes, .instanceMethod yX10_comes, .selects RX10 yX10_comes yX10_comes, .initialized RX10] : List Cond)).all goodWord = true) w h), List.forall_mem_append.mpr ⟨gw_X10, List.forall_mem_append.mpr ⟨gd_k_X10_comes, List.forall_mem_append.mpr ⟨gd_k_X10_comes_1, List.forall_mem_append.mpr ⟨gd_k_X10_comes_2, List.forall_mem_append.mpr ⟨gd_k_X10_comes_3, List.forall_mem_append.mpr ⟨gd_k_X10_comes_4, List.forall_mem_append.mpr ⟨gd_k_X10_comes_5, List.forall_mem_append.mpr ⟨gd_k_X10_comes_6, fun _ h => absurd h List.not_mem_nil⟩⟩⟩⟩⟩⟩⟩⟩⟩⟩
theorem iw_k_X10_oneOf_X10 : ∀ w ∈ wsX100, w ∈ sw_k_X10_oneOf := fun _ h => List.mem_cons_of_mem _ (List.mem_append_right _ (List.mem_append_left _ h))
theorem gc_k_X10_oneOf_k_X10_comes : GoodIn sw_k_X10_oneOf sw_k_X10_comes := fun w h => ⟨List.mem_cons_of_mem _ (List.mem_append_right _ (List.mem_append_right _ (List.mem_append_left _ h))), gd_k_X10_comes w h⟩
theorem gc_k_X10_oneOf_k_X10_comes_1 : GoodIn sw_k_X10_oneOf sw_k_X10_comes_1 := fun w h => ⟨List.mem_cons_of_mem _ (List.mem_append_right _ (List.mem_append_right _ (List.mem_append_right _ (List.mem_append_left _ h)))), gd_k_X10_comes_1 w h⟩
theorem gc_k_X10_oneOf_k_X10_comes_2 : GoodIn sw_k_X10_oneOf sw_k_X10_comes_2 := fun w h => ⟨List.mem_cons_of_mem _ (List.mem_append_right _ (List.mem_append_right _ (List.mem_append_right _ (List.mem_append_right _ (List.mem_append_left _ h))))), gd_k_X10_comes_2 w h⟩
theorem gc_k_X10_oneOf_k_X10_comes_3 : GoodIn sw_k_X10_oneOf sw_k_X10_comes_3 := fun w h => ⟨List.mem_cons_of_mem _ (List.mem_append_right _ (List.mem_append_right _ (List.mem_append_right _ (List.mem_append_right _ (List.mem_append_right _ (List.mem_append_left _ h)))))), gd_k_X10_comes_3 w h⟩
theorem gc_k_X10_oneOf_k_X10_comes_4 : GoodIn sw_k_X10_oneOf sw_k_X10_comes_4 := fun w h => ⟨List.mem_cons_of_mem _ (List.mem_append_right _ (List.mem_append_right _ (List.mem_append_right _ (List.mem_append_right _ (List.mem_append_right _ (List.mem_append_right _ (List.mem_append_left _ h))))))), gd_k_X10_comes_4 w h⟩
theorem gc_k_X10_oneOf_k_X10_comes_5 : GoodIn sw_k_X10_oneOf sw_k_X10_comes_5 := fun w h => ⟨List.mem_cons_of_mem _ (List.mem_append_right _ (List.mem_append_right _ (List.mem_append_right _ (List.mem_append_right _ (List.mem_append_right _ (List.mem_append_right _ (List.mem_append_right _ (List.mem_append_left _ h)))))))), gd_k_X10_comes_5 w h⟩
theorem gc_k_X10_oneOf_k_X10_comes_6 : GoodIn sw_k_X10_oneOf sw_k_X10_comes_6 := fun w h => ⟨List.mem_cons_of_mem _ (List.mem_append_right _ (List.mem_append_right _ (List.mem_append_right _ (List.mem_append_right _ (List.mem_append_right _ (List.mem_append_right _ (List.mem_append_right _ (List.mem_append_right _ (List.mem_append_left _ h))))))))), gd_k_X10_comes_6 w h⟩
set_option maxHeartbeats 4000000 in
set_option maxRecDepth 100000 in
theorem k_X10_oneOf (l : Launch) (D : va_G) (cC cI cZ : ClassId) (h0 h1 h2 h3 h4 h5 h6 h7 h8 h9 h10 h11 h12 h13 h14 h15 h16 h17 h18 h19 h20 h21 h22 h23 h24 h25 : Nat) (sz : Nat) : Met l yX10_oneOf sw_k_X10_oneOf ({ frames := 4, cells := 0, slots := 0, locals := 200 }) (va_Pc [.ref h0, .ref h1] (kPre D cC cI cZ [(h1, .inl (cC, 7, .inl (upd (upd (upd (upd (upd (upd (upd (fun _ => 0) (Int32.toNatClampNeg 0) (vp_nar .char 112)) (Int32.toNatClampNeg 1) (vp_nar .char 108)) (Int32.toNatClampNeg 2) (vp_nar .char 109)) (Int32.toNatClampNeg 3) (vp_nar .char 107)) (Int32.toNatClampNeg 4) (vp_nar .char 98)) (Int32.toNatClampNeg 5) (vp_nar .char 99)) (Int32.toNatClampNeg 6) (vp_nar .char 115)))), (h0, .inr (10, [.ref h2, .ref h3, .ref h4, .ref h5, .ref h6, .ref h7, .ref h8, .int 0, .ref h9, .ref h10, .ref h11, .ref h12, .ref h13, .ref h14, .ref h15, .int 0, .int 0, .int 1, .ref h1, .ref h16, .int 0, .int 0, .int 0, .ref h17, .ref h18, .ref h19, .ref h20, .ref h21, .ref h22, .ref h23, .int 0, .ref h24, .int 0, .ref h25]))] sz)) (va_Qi (fun (r : Int32) (_ : Unit) => r = 0) (fun _ t => va_P D vwCl [(h1, .inl (cC, 7, .inl (upd (upd (upd (upd (upd (upd (upd (fun _ => 0) (Int32.toNatClampNeg 0) (vp_nar .char 112)) (Int32.toNatClampNeg 1) (vp_nar .char 108)) (Int32.toNatClampNeg 2) (vp_nar .char 109)) (Int32.toNatClampNeg 3) (vp_nar .char 107)) (Int32.toNatClampNeg 4) (vp_nar .char 98)) (Int32.toNatClampNeg 5) (vp_nar .char 99)) (Int32.toNatClampNeg 6) (vp_nar .char 115)))), (h0, .inr (10, [.ref h2, .ref h3, .ref h4, .ref h5, .ref h6, .ref h7, .ref h8, .int 0, .ref h9, .ref h10, .ref h11, .ref h12, .ref h13, .ref h14, .ref h15, .int 0, .int 0, .int 0, .ref h1, .ref h16, .int 0, .int 0, .int 0, .ref h17, .ref h18, .ref h19, .ref h20, .ref h21, .ref h22, .ref h23, .int 0, .ref h24, .int 0, .ref h25]))] t.heap ∧ va_D (va_A [(h1, .inl (cC, 7, .inl (upd (upd (upd (upd (upd (upd (upd (fun _ => 0) (Int32.toNatClampNeg 0) (vp_nar .char 112)) (Int32.toNatClampNeg 1) (vp_nar .char 108)) (Int32.toNatClampNeg 2) (vp_nar .char 109)) (Int32.toNatClampNeg 3) (vp_nar .char 107)) (Int32.toNatClampNeg 4) (vp_nar .char 98)) (Int32.toNatClampNeg 5) (vp_nar .char 99)) (Int32.toNatClampNeg 6) (vp_nar .char 115)))), (h0, .inr (10, [.ref h2, .ref h3, .ref h4, .ref h5, .ref h6, .ref h7, .ref h8, .int 0, .ref h9, .ref h10, .ref h11, .ref h12, .ref h13, .ref h14, .ref h15, .int 0, .int 0, .int 1, .ref h1, .ref h16, .int 0, .int 0, .int 0, .ref h17, .ref h18, .ref h19, .ref h20, .ref h21, .ref h22, .ref h23, .int 0, .ref h24, .int 0, .ref h25]))] sz) [(h1, .inl (cC, 7, .inl (upd (upd (upd (upd (upd (upd (upd (fun _ => 0) (Int32.toNatClampNeg 0) (vp_nar .char 112)) (Int32.toNatClampNeg 1) (vp_nar .char 108)) (Int32.toNatClampNeg 2) (vp_nar .char 109)) (Int32.toNatClampNeg 3) (vp_nar .char 107)) (Int32.toNatClampNeg 4) (vp_nar .char 98)) (Int32.toNatClampNeg 5) (vp_nar .char 99)) (Int32.toNatClampNeg 6) (vp_nar .char 115)))), (h0, .inr (10, [.ref h2, .ref h3, .ref h4, .ref h5, .ref h6, .ref h7, .ref h8, .int 0, .ref h9, .ref h10, .ref h11, .ref h12, .ref h13, .ref h14, .ref h15, .int 0, .int 0, .int 0, .ref h1, .ref h16, .int 0, .int 0, .int 0, .ref h17, .ref h18, .ref h19, .ref h20, .ref h21, .ref h22, .ref h23, .int 0, .ref h24, .int 0, .ref h25]))]) (va_A [(h1, .inl (cC, 7, .inl (upd (upd (upd (upd (upd (upd (upd (fun _ => 0) (Int32.toNatClampNeg 0) (vp_nar .char 112)) (Int32.toNatClampNeg 1) (vp_nar .char 108)) (Int32.toNatClampNeg 2) (vp_nar .char 109)) (Int32.toNatClampNeg 3) (vp_nar .char 107)) (Int32.toNatClampNeg 4) (vp_nar .char 98)) (Int32.toNatClampNeg 5) (vp_nar .char 99)) (Int32.toNatClampNeg 6) (vp_nar .char 115)))), (h0, .inr (10, [.ref h2, .ref h3, .ref h4, .ref h5, .ref h6, .ref h7, .ref h8, .int 0, .ref h9, .ref h10, .ref h11, .ref h12, .ref h13, .ref h14, .ref h15, .int 0, .int 0, .int 1, .ref h1, .ref h16, .int 0, .int 0, .int 0, .ref h17, .ref h18, .ref h19, .ref h20, .ref h21, .ref h22, .ref h23, .int 0, .ref h24, .int 0, .ref h25]))] sz)) 0 0 (va_A [(h1, .inl (cC, 7, .inl (upd (upd (upd (upd (upd (upd (upd (fun _ => 0) (Int32.toNatClampNeg 0) (vp_nar .char 112)) (Int32.toNatClampNeg 1) (vp_nar .char 108)) (Int32.toNatClampNeg 2) (vp_nar .char 109)) (Int32.toNatClampNeg 3) (vp_nar .char 107)) (Int32.toNatClampNeg 4) (vp_nar .char 98)) (Int32.toNatClampNeg 5) (vp_nar .char 99)) (Int32.toNatClampNeg 6) (vp_nar .char 115)))), (h0, .inr (10, [.ref h2, .ref h3, .ref h4, .ref h5, .ref h6, .ref h7, .ref h8, .int 0, .ref h9, .ref h10, .ref h11, .ref h12, .ref h13, .ref h14, .ref h15, .int 0, .int 0, .int 1, .ref h1, .ref h16, .int 0, .int 0, .int 0, .ref h17, .ref h18, .ref h19, .ref h20, .ref h21, .ref h22, .ref h23, .int 0, .ref h24, .int 0, .ref h25]))] sz) := by
  refine Met.ofW (cc := cX10_oneOf) (maxL := 4) (ret := (some .int)) (by decide) rfl ?_
  intro p e s m args below meth c s₁ B hml hv
  obtain ⟨rfl, hsz, hP, hK, hD0⟩ := hv
  have hx := B.exec
  have hb := B.bytes
  have hr := B.returns
  have hts := atoms_spec (ws := sw_k_X10_oneOf) B.pre
  have hown : s.vm.findClass RX10 = some m.cls := findClass_of_methodNamed B.named
  have hlocks := B.notSynchronized
  subst hsz
  have hD := hD0.self (sz := s.heap.size)
  generalize hAe : va_A [(h1, .inl (cC, 7, .inl (upd (upd (upd (upd (upd (upd (upd (fun _ => 0) (Int32.toNatClampNeg 0) (vp_nar .char 112)) (Int32.toNatClampNeg 1) (vp_nar .char 108)) (Int32.toNatClampNeg 2) (vp_nar .char 109)) (Int32.toNatClampNeg 3) (vp_nar .char 107)) (Int32.toNatClampNeg 4) (vp_nar .char 98)) (Int32.toNatClampNeg 5) (vp_nar .char 99)) (Int32.toNatClampNeg 6) (vp_nar .char 115)))), (h0, .inr (10, [.ref h2, .ref h3, .ref h4, .ref h5, .ref h6, .ref h7, .ref h8, .int 0, .ref h9, .ref h10, .ref h11, .ref h12, .ref h13, .ref h14, .ref h15, .int 0, .int 0, .int 1, .ref h1, .ref h16, .int 0, .int 0, .int 0, .ref h17, .ref h18, .ref h19, .ref h20, .ref h21, .ref h22, .ref h23, .int 0, .ref h24, .int 0, .ref h25]))] s.heap.size = A at hD ⊢
  have hA : ∀ q : Nat, s.heap.size ≤ q → A q := fun q h => by rw [← hAe]; exact Or.inr h
  have hS : va_S A s.heap s.heap [] := va_S.rf
  have hl := lv_entry ([.ref h0, .ref h1]) (n := 4) (Nat.le_of_ble_eq_true rfl)
  rw [lg_entry_eq]
  generalize (lg_sl ([.ref h0, .ref h1]) ++ List.replicate (4 - (lg_sl ([.ref h0, .ref h1])).length) Slot.unset).toArray = ls at hl ⊢
  have hl : lv_has ls 4 [(0, .ref h0), (1, .ref h1)] := hl
  refine lv_iconst (v := (-1)) hx hb dX10_oneOf_0 (by decide) ?_
  refine lv_istore_n (lv' := [(2, .int (-1)), (0, .ref h0), (1, .ref h1)]) hx hb dX10_oneOf_1 rfl hl (by decide) rfl (fun ls hl => ?_)
  refine lv_iconst (v := 0) hx hb dX10_oneOf_2 (by decide) ?_
  refine lv_istore_n (lv' := [(3, .int 0), (2, .int (-1)), (0, .ref h0), (1, .ref h1)]) hx hb dX10_oneOf_3 rfl hl (by decide) rfl (fun ls hl => ?_)
  refine lv_iload_n hx hb dX10_oneOf_4 rfl (lv_at hl 0 rfl) ?_
  refine lv_aload_n hx hb dX10_oneOf_5 rfl (lv_at hl 3 rfl) ?_
  refine va_alen (ty := .char) (v := 7) hx hb hK hP 0 0 rfl rfl rfl dX10_oneOf_6 ?_
  refine lv_icmp_ge (tgt := 39) hx hb dX10_oneOf_7 (by decide) (fun c => absurd c (by decide)) (fun _ => ?_)
  refine lv_aload_n hx hb dX10_oneOf_10 rfl (lv_at hl 2 rfl) ?_
  refine va_get (D := D) (ci := 10) (v := .int 1) (C := RX10) (T := TX10) (N := 34) hx hb hts iw_k_X10_oneOf_X10 hown hK hP 1 rfl rfl 17 (by decide) (hts (.fieldLink RX10 105 "TopTurnedModel" "well" "Z") (by decide +kernel)) (fun _ h9 => h9) rfl dX10_oneOf_11 ?_
  refine lv_if_eq (tgt := 39) hx hb dX10_oneOf_14 (by decide) (fun c => absurd c (by decide)) (fun _ => ?_)
  refine lv_iload_n hx hb dX10_oneOf_17 rfl (lv_at hl 1 rfl) ?_
  refine lv_if_ge (tgt := 39) hx hb dX10_oneOf_18 (by decide) (fun c => absurd c (by decide)) (fun _ => ?_)
  refine lv_aload_n hx hb dX10_oneOf_21 rfl (lv_at hl 2 rfl) ?_
  refine lv_aload_n hx hb dX10_oneOf_22 rfl (lv_at hl 3 rfl) ?_
  refine lv_iload_n hx hb dX10_oneOf_23 rfl (lv_at hl 0 rfl) ?_
  refine va_cald (i := 0) hx hb hK hP 0 0 rfl rfl (vp_in_iff.mpr (by decide)) dX10_oneOf_24 ?_
  refine kt_eq (y := 112) (by decide +kernel) ?_
  have hPc := hP.sub (ws' := [(h0, .inr (10, [.ref h2, .ref h3, .ref h4, .ref h5, .ref h6, .ref h7, .ref h8, .int 0, .ref h9, .ref h10, .ref h11, .ref h12, .ref h13, .ref h14, .ref h15, .int 0, .int 0, .int 1, .ref h1, .ref h16, .int 0, .int 0, .int 0, .ref h17, .ref h18, .ref h19, .ref h20, .ref h21, .ref h22, .ref h23, .int 0, .ref h24, .int 0, .ref h25]))]) [1] rfl
  have hDc := hD.sub (ws' := [(h0, .inr (10, [.ref h2, .ref h3, .ref h4, .ref h5, .ref h6, .ref h7, .ref h8, .int 0, .ref h9, .ref h10, .ref h11, .ref h12, .ref h13, .ref h14, .ref h15, .int 0, .int 0, .int 1, .ref h1, .ref h16, .int 0, .int 0, .int 0, .ref h17, .ref h18, .ref h19, .ref h20, .ref h21, .ref h22, .ref h23, .int 0, .ref h24, .int 0, .ref h25]))]) [1] (by decide) rfl
  refine va_calli (va_runV (As := [.int 112]) (rest := []) ⟨hx, hb, hml, hown, hts⟩ (k_X10_comes l D cC cI cZ h0 h2 h3 h4 h5 h6 h7 h8 h9 h10 h11 h12 h13 h14 h15 h1 h16 h17 h18 h19 h20 h21 h22 h23 h24 h25 s.heap.size ) (cwV (C := RX10) 1 hts (goodIn_app (goodIn_of _ (by decide +kernel)) gc_k_X10_oneOf_k_X10_comes) rfl rfl rfl (by decide +kernel) ⟨(Nat.le_of_ble_eq_true rfl), (Nat.le_of_ble_eq_true rfl)⟩) (kPreV hK hPc hDc (va_recv hK hPc (ci := 10) (q0 := 0) rfl rfl)) rfl rfl hl.1 rfl (lv_room (Nat.le_of_ble_eq_true rfl)) dX10_oneOf_25 ⟨(Nat.le_of_ble_eq_true rfl), (Nat.le_of_ble_eq_true rfl)⟩) hS (fun q _ h => False.elim h) (fun q h => False.elim h) (fun r1 u t H1 locs ht hvm hw hB hz1 hk1 hS => ?_)
  have hP := hP.kept (H1 := H1) (fun k q hk => hk1 q.1 (hP k q hk).lt (fun h => h))
  generalize H1 = H at hP hS ⊢
  have hw : r1 = 0 := hw
  subst hw
  refine lv_if_eq (tgt := 33) hx hb dX10_oneOf_28 (by decide) (fun _ => ?_) (fun c => absurd (by decide) c)
  refine lv_iinc (v := 1) (lv' := [(3, .int 1), (2, .int (-1)), (0, .ref h0), (1, .ref h1)]) hx hb dX10_oneOf_33 hl (k := 0) rfl (by decide) (by decide) rfl (fun ls hl => ?_)
  refine lv_goto (tgt := 4) hx hb dX10_oneOf_36 (by decide) ?_
  refine lv_iload_n hx hb dX10_oneOf_4 rfl (lv_at hl 0 rfl) ?_
  refine lv_aload_n hx hb dX10_oneOf_5 rfl (lv_at hl 3 rfl) ?_
  refine va_alen (ty := .char) (v := 7) hx hb hK hP 0 0 rfl rfl rfl dX10_oneOf_6 ?_
  refine lv_icmp_ge (tgt := 39) hx hb dX10_oneOf_7 (by decide) (fun c => absurd c (by decide)) (fun _ => ?_)
  refine lv_aload_n hx hb dX10_oneOf_10 rfl (lv_at hl 2 rfl) ?_
  refine va_get (D := D) (ci := 10) (v := .int 1) (C := RX10) (T := TX10) (N := 34) hx hb hts iw_k_X10_oneOf_X10 hown hK hP 1 rfl rfl 17 (by decide) (hts (.fieldLink RX10 105 "TopTurnedModel" "well" "Z") (by decide +kernel)) (fun _ h9 => h9) rfl dX10_oneOf_11 ?_
  refine lv_if_eq (tgt := 39) hx hb dX10_oneOf_14 (by decide) (fun c => absurd c (by decide)) (fun _ => ?_)
  refine lv_iload_n hx hb dX10_oneOf_17 rfl (lv_at hl 1 rfl) ?_
  refine lv_if_ge (tgt := 39) hx hb dX10_oneOf_18 (by decide) (fun c => absurd c (by decide)) (fun _ => ?_)
  refine lv_aload_n hx hb dX10_oneOf_21 rfl (lv_at hl 2 rfl) ?_
  refine lv_aload_n hx hb dX10_oneOf_22 rfl (lv_at hl 3 rfl) ?_
  refine lv_iload_n hx hb dX10_oneOf_23 rfl (lv_at hl 0 rfl) ?_
  refine va_cald (i := 1) hx hb hK hP 0 0 rfl rfl (vp_in_iff.mpr (by decide)) dX10_oneOf_24 ?_
  refine kt_eq (y := 108) (by decide +kernel) ?_
  have hPc := hP.sub (ws' := [(h0, .inr (10, [.ref h2, .ref h3, .ref h4, .ref h5, .ref h6, .ref h7, .ref h8, .int 0, .ref h9, .ref h10, .ref h11, .ref h12, .ref h13, .ref h14, .ref h15, .int 0, .int 0, .int 1, .ref h1, .ref h16, .int 0, .int 0, .int 0, .ref h17, .ref h18, .ref h19, .ref h20, .ref h21, .ref h22, .ref h23, .int 0, .ref h24, .int 0, .ref h25]))]) [1] rfl
  have hDc := hD.sub (ws' := [(h0, .inr (10, [.ref h2, .ref h3, .ref h4, .ref h5, .ref h6, .ref h7, .ref h8, .int 0, .ref h9, .ref h10, .ref h11, .ref h12, .ref h13, .ref h14, .ref h15, .int 0, .int 0, .int 1, .ref h1, .ref h16, .int 0, .int 0, .int 0, .ref h17, .ref h18, .ref h19, .ref h20, .ref h21, .ref h22, .ref h23, .int 0, .ref h24, .int 0, .ref h25]))]) [1] (by decide) rfl
  refine va_calli (va_runV (As := [.int 108]) (rest := []) ⟨hx, hb, hml, hown, hts⟩ (k_X10_comes_1 l D cC cI cZ h0 h2 h3 h4 h5 h6 h7 h8 h9 h10 h11 h12 h13 h14 h15 h1 h16 h17 h18 h19 h20 h21 h22 h23 h24 h25 H.size ) (cwV (C := RX10) 1 hts (goodIn_app (goodIn_of _ (by decide +kernel)) gc_k_X10_oneOf_k_X10_comes_1) rfl rfl rfl (by decide +kernel) ⟨(Nat.le_of_ble_eq_true rfl), (Nat.le_of_ble_eq_true rfl)⟩) (kPreV hK hPc hDc (va_recv hK hPc (ci := 10) (q0 := 0) rfl rfl)) rfl rfl hl.1 rfl (lv_room (Nat.le_of_ble_eq_true rfl)) dX10_oneOf_25 ⟨(Nat.le_of_ble_eq_true rfl), (Nat.le_of_ble_eq_true rfl)⟩) hS (fun q _ h => False.elim h) (fun q h => False.elim h) (fun r2 u t H1 locs ht hvm hw hB hz1 hk1 hS => ?_)
  have hP := hP.kept (H1 := H1) (fun k q hk => hk1 q.1 (hP k q hk).lt (fun h => h))
  generalize H1 = H at hP hS ⊢
  have hw : r2 = 0 := hw
  subst hw
  refine lv_if_eq (tgt := 33) hx hb dX10_oneOf_28 (by decide) (fun _ => ?_) (fun c => absurd (by decide) c)
  refine lv_iinc (v := 2) (lv' := [(3, .int 2), (2, .int (-1)), (0, .ref h0), (1, .ref h1)]) hx hb dX10_oneOf_33 hl (k := 0) rfl (by decide) (by decide) rfl (fun ls hl => ?_)
  refine lv_goto (tgt := 4) hx hb dX10_oneOf_36 (by decide) ?_
  refine lv_iload_n hx hb dX10_oneOf_4 rfl (lv_at hl 0 rfl) ?_
  refine lv_aload_n hx hb dX10_oneOf_5 rfl (lv_at hl 3 rfl) ?_
  refine va_alen (ty := .char) (v := 7) hx hb hK hP 0 0 rfl rfl rfl dX10_oneOf_6 ?_
  refine lv_icmp_ge (tgt := 39) hx hb dX10_oneOf_7 (by decide) (fun c => absurd c (by decide)) (fun _ => ?_)
  refine lv_aload_n hx hb dX10_oneOf_10 rfl (lv_at hl 2 rfl) ?_
  refine va_get (D := D) (ci := 10) (v := .int 1) (C := RX10) (T := TX10) (N := 34) hx hb hts iw_k_X10_oneOf_X10 hown hK hP 1 rfl rfl 17 (by decide) (hts (.fieldLink RX10 105 "TopTurnedModel" "well" "Z") (by decide +kernel)) (fun _ h9 => h9) rfl dX10_oneOf_11 ?_
  refine lv_if_eq (tgt := 39) hx hb dX10_oneOf_14 (by decide) (fun c => absurd c (by decide)) (fun _ => ?_)
  refine lv_iload_n hx hb dX10_oneOf_17 rfl (lv_at hl 1 rfl) ?_
  refine lv_if_ge (tgt := 39) hx hb dX10_oneOf_18 (by decide) (fun c => absurd c (by decide)) (fun _ => ?_)
  refine lv_aload_n hx hb dX10_oneOf_21 rfl (lv_at hl 2 rfl) ?_
  refine lv_aload_n hx hb dX10_oneOf_22 rfl (lv_at hl 3 rfl) ?_
  refine lv_iload_n hx hb dX10_oneOf_23 rfl (lv_at hl 0 rfl) ?_
  refine va_cald (i := 2) hx hb hK hP 0 0 rfl rfl (vp_in_iff.mpr (by decide)) dX10_oneOf_24 ?_
  refine kt_eq (y := 109) (by decide +kernel) ?_
  have hPc := hP.sub (ws' := [(h0, .inr (10, [.ref h2, .ref h3, .ref h4, .ref h5, .ref h6, .ref h7, .ref h8, .int 0, .ref h9, .ref h10, .ref h11, .ref h12, .ref h13, .ref h14, .ref h15, .int 0, .int 0, .int 1, .ref h1, .ref h16, .int 0, .int 0, .int 0, .ref h17, .ref h18, .ref h19, .ref h20, .ref h21, .ref h22, .ref h23, .int 0, .ref h24, .int 0, .ref h25]))]) [1] rfl
  have hDc := hD.sub (ws' := [(h0, .inr (10, [.ref h2, .ref h3, .ref h4, .ref h5, .ref h6, .ref h7, .ref h8, .int 0, .ref h9, .ref h10, .ref h11, .ref h12, .ref h13, .ref h14, .ref h15, .int 0, .int 0, .int 1, .ref h1, .ref h16, .int 0, .int 0, .int 0, .ref h17, .ref h18, .ref h19, .ref h20, .ref h21, .ref h22, .ref h23, .int 0, .ref h24, .int 0, .ref h25]))]) [1] (by decide) rfl
  refine va_calli (va_runV (As := [.int 109]) (rest := []) ⟨hx, hb, hml, hown, hts⟩ (k_X10_comes_2 l D cC cI cZ h0 h2 h3 h4 h5 h6 h7 h8 h9 h10 h11 h12 h13 h14 h15 h1 h16 h17 h18 h19 h20 h21 h22 h23 h24 h25 H.size ) (cwV (C := RX10) 1 hts (goodIn_app (goodIn_of _ (by decide +kernel)) gc_k_X10_oneOf_k_X10_comes_2) rfl rfl rfl (by decide +kernel) ⟨(Nat.le_of_ble_eq_true rfl), (Nat.le_of_ble_eq_true rfl)⟩) (kPreV hK hPc hDc (va_recv hK hPc (ci := 10) (q0 := 0) rfl rfl)) rfl rfl hl.1 rfl (lv_room (Nat.le_of_ble_eq_true rfl)) dX10_oneOf_25 ⟨(Nat.le_of_ble_eq_true rfl), (Nat.le_of_ble_eq_true rfl)⟩) hS (fun q _ h => False.elim h) (fun q h => False.elim h) (fun r3 u t H1 locs ht hvm hw hB hz1 hk1 hS => ?_)
  have hP := hP.kept (H1 := H1) (fun k q hk => hk1 q.1 (hP k q hk).lt (fun h => h))
  generalize H1 = H at hP hS ⊢
  have hw : r3 = 0 := hw
  subst hw
  refine lv_if_eq (tgt := 33) hx hb dX10_oneOf_28 (by decide) (fun _ => ?_) (fun c => absurd (by decide) c)
  refine lv_iinc (v := 3) (lv' := [(3, .int 3), (2, .int (-1)), (0, .ref h0), (1, .ref h1)]) hx hb dX10_oneOf_33 hl (k := 0) rfl (by decide) (by decide) rfl (fun ls hl => ?_)
  refine lv_goto (tgt := 4) hx hb dX10_oneOf_36 (by decide) ?_
  refine lv_iload_n hx hb dX10_oneOf_4 rfl (lv_at hl 0 rfl) ?_
  refine lv_aload_n hx hb dX10_oneOf_5 rfl (lv_at hl 3 rfl) ?_
  refine va_alen (ty := .char) (v := 7) hx hb hK hP 0 0 rfl rfl rfl dX10_oneOf_6 ?_
  refine lv_icmp_ge (tgt := 39) hx hb dX10_oneOf_7 (by decide) (fun c => absurd c (by decide)) (fun _ => ?_)
  refine lv_aload_n hx hb dX10_oneOf_10 rfl (lv_at hl 2 rfl) ?_
  refine va_get (D := D) (ci := 10) (v := .int 1) (C := RX10) (T := TX10) (N := 34) hx hb hts iw_k_X10_oneOf_X10 hown hK hP 1 rfl rfl 17 (by decide) (hts (.fieldLink RX10 105 "TopTurnedModel" "well" "Z") (by decide +kernel)) (fun _ h9 => h9) rfl dX10_oneOf_11 ?_
  refine lv_if_eq (tgt := 39) hx hb dX10_oneOf_14 (by decide) (fun c => absurd c (by decide)) (fun _ => ?_)
  refine lv_iload_n hx hb dX10_oneOf_17 rfl (lv_at hl 1 rfl) ?_
  refine lv_if_ge (tgt := 39) hx hb dX10_oneOf_18 (by decide) (fun c => absurd c (by decide)) (fun _ => ?_)
  refine lv_aload_n hx hb dX10_oneOf_21 rfl (lv_at hl 2 rfl) ?_
  refine lv_aload_n hx hb dX10_oneOf_22 rfl (lv_at hl 3 rfl) ?_
  refine lv_iload_n hx hb dX10_oneOf_23 rfl (lv_at hl 0 rfl) ?_
  refine va_cald (i := 3) hx hb hK hP 0 0 rfl rfl (vp_in_iff.mpr (by decide)) dX10_oneOf_24 ?_
  refine kt_eq (y := 107) (by decide +kernel) ?_
  have hPc := hP.sub (ws' := [(h0, .inr (10, [.ref h2, .ref h3, .ref h4, .ref h5, .ref h6, .ref h7, .ref h8, .int 0, .ref h9, .ref h10, .ref h11, .ref h12, .ref h13, .ref h14, .ref h15, .int 0, .int 0, .int 1, .ref h1, .ref h16, .int 0, .int 0, .int 0, .ref h17, .ref h18, .ref h19, .ref h20, .ref h21, .ref h22, .ref h23, .int 0, .ref h24, .int 0, .ref h25]))]) [1] rfl
  have hDc := hD.sub (ws' := [(h0, .inr (10, [.ref h2, .ref h3, .ref h4, .ref h5, .ref h6, .ref h7, .ref h8, .int 0, .ref h9, .ref h10, .ref h11, .ref h12, .ref h13, .ref h14, .ref h15, .int 0, .int 0, .int 1, .ref h1, .ref h16, .int 0, .int 0, .int 0, .ref h17, .ref h18, .ref h19, .ref h20, .ref h21, .ref h22, .ref h23, .int 0, .ref h24, .int 0, .ref h25]))]) [1] (by decide) rfl
  refine va_calli (va_runV (As := [.int 107]) (rest := []) ⟨hx, hb, hml, hown, hts⟩ (k_X10_comes_3 l D cC cI cZ h0 h2 h3 h4 h5 h6 h7 h8 h9 h10 h11 h12 h13 h14 h15 h1 h16 h17 h18 h19 h20 h21 h22 h23 h24 h25 H.size ) (cwV (C := RX10) 1 hts (goodIn_app (goodIn_of _ (by decide +kernel)) gc_k_X10_oneOf_k_X10_comes_3) rfl rfl rfl (by decide +kernel) ⟨(Nat.le_of_ble_eq_true rfl), (Nat.le_of_ble_eq_true rfl)⟩) (kPreV hK hPc hDc (va_recv hK hPc (ci := 10) (q0 := 0) rfl rfl)) rfl rfl hl.1 rfl (lv_room (Nat.le_of_ble_eq_true rfl)) dX10_oneOf_25 ⟨(Nat.le_of_ble_eq_true rfl), (Nat.le_of_ble_eq_true rfl)⟩) hS (fun q _ h => False.elim h) (fun q h => False.elim h) (fun r4 u t H1 locs ht hvm hw hB hz1 hk1 hS => ?_)
  have hP := hP.kept (H1 := H1) (fun k q hk => hk1 q.1 (hP k q hk).lt (fun h => h))
  generalize H1 = H at hP hS ⊢
  have hw : r4 = 0 := hw
  subst hw
  refine lv_if_eq (tgt := 33) hx hb dX10_oneOf_28 (by decide) (fun _ => ?_) (fun c => absurd (by decide) c)
  refine lv_iinc (v := 4) (lv' := [(3, .int 4), (2, .int (-1)), (0, .ref h0), (1, .ref h1)]) hx hb dX10_oneOf_33 hl (k := 0) rfl (by decide) (by decide) rfl (fun ls hl => ?_)
  refine lv_goto (tgt := 4) hx hb dX10_oneOf_36 (by decide) ?_
  refine lv_iload_n hx hb dX10_oneOf_4 rfl (lv_at hl 0 rfl) ?_
  refine lv_aload_n hx hb dX10_oneOf_5 rfl (lv_at hl 3 rfl) ?_
  refine va_alen (ty := .char) (v := 7) hx hb hK hP 0 0 rfl rfl rfl dX10_oneOf_6 ?_
  refine lv_icmp_ge (tgt := 39) hx hb dX10_oneOf_7 (by decide) (fun c => absurd c (by decide)) (fun _ => ?_)
  refine lv_aload_n hx hb dX10_oneOf_10 rfl (lv_at hl 2 rfl) ?_
  refine va_get (D := D) (ci := 10) (v := .int 1) (C := RX10) (T := TX10) (N := 34) hx hb hts iw_k_X10_oneOf_X10 hown hK hP 1 rfl rfl 17 (by decide) (hts (.fieldLink RX10 105 "TopTurnedModel" "well" "Z") (by decide +kernel)) (fun _ h9 => h9) rfl dX10_oneOf_11 ?_
  refine lv_if_eq (tgt := 39) hx hb dX10_oneOf_14 (by decide) (fun c => absurd c (by decide)) (fun _ => ?_)
  refine lv_iload_n hx hb dX10_oneOf_17 rfl (lv_at hl 1 rfl) ?_
  refine lv_if_ge (tgt := 39) hx hb dX10_oneOf_18 (by decide) (fun c => absurd c (by decide)) (fun _ => ?_)
  refine lv_aload_n hx hb dX10_oneOf_21 rfl (lv_at hl 2 rfl) ?_
  refine lv_aload_n hx hb dX10_oneOf_22 rfl (lv_at hl 3 rfl) ?_
  refine lv_iload_n hx hb dX10_oneOf_23 rfl (lv_at hl 0 rfl) ?_
  refine va_cald (i := 4) hx hb hK hP 0 0 rfl rfl (vp_in_iff.mpr (by decide)) dX10_oneOf_24 ?_
  refine kt_eq (y := 98) (by decide +kernel) ?_
  have hPc := hP.sub (ws' := [(h0, .inr (10, [.ref h2, .ref h3, .ref h4, .ref h5, .ref h6, .ref h7, .ref h8, .int 0, .ref h9, .ref h10, .ref h11, .ref h12, .ref h13, .ref h14, .ref h15, .int 0, .int 0, .int 1, .ref h1, .ref h16, .int 0, .int 0, .int 0, .ref h17, .ref h18, .ref h19, .ref h20, .ref h21, .ref h22, .ref h23, .int 0, .ref h24, .int 0, .ref h25]))]) [1] rfl
  have hDc := hD.sub (ws' := [(h0, .inr (10, [.ref h2, .ref h3, .ref h4, .ref h5, .ref h6, .ref h7, .ref h8, .int 0, .ref h9, .ref h10, .ref h11, .ref h12, .ref h13, .ref h14, .ref h15, .int 0, .int 0, .int 1, .ref h1, .ref h16, .int 0, .int 0, .int 0, .ref h17, .ref h18, .ref h19, .ref h20, .ref h21, .ref h22, .ref h23, .int 0, .ref h24, .int 0, .ref h25]))]) [1] (by decide) rfl
  refine va_calli (va_runV (As := [.int 98]) (rest := []) ⟨hx, hb, hml, hown, hts⟩ (k_X10_comes_4 l D cC cI cZ h0 h2 h3 h4 h5 h6 h7 h8 h9 h10 h11 h12 h13 h14 h15 h1 h16 h17 h18 h19 h20 h21 h22 h23 h24 h25 H.size ) (cwV (C := RX10) 1 hts (goodIn_app (goodIn_of _ (by decide +kernel)) gc_k_X10_oneOf_k_X10_comes_4) rfl rfl rfl (by decide +kernel) ⟨(Nat.le_of_ble_eq_true rfl), (Nat.le_of_ble_eq_true rfl)⟩) (kPreV hK hPc hDc (va_recv hK hPc (ci := 10) (q0 := 0) rfl rfl)) rfl rfl hl.1 rfl (lv_room (Nat.le_of_ble_eq_true rfl)) dX10_oneOf_25 ⟨(Nat.le_of_ble_eq_true rfl), (Nat.le_of_ble_eq_true rfl)⟩) hS (fun q _ h => False.elim h) (fun q h => False.elim h) (fun r5 u t H1 locs ht hvm hw hB hz1 hk1 hS => ?_)
  have hP := hP.kept (H1 := H1) (fun k q hk => hk1 q.1 (hP k q hk).lt (fun h => h))
  generalize H1 = H at hP hS ⊢
  have hw : r5 = 0 := hw
  subst hw
  refine lv_if_eq (tgt := 33) hx hb dX10_oneOf_28 (by decide) (fun _ => ?_) (fun c => absurd (by decide) c)
  refine lv_iinc (v := 5) (lv' := [(3, .int 5), (2, .int (-1)), (0, .ref h0), (1, .ref h1)]) hx hb dX10_oneOf_33 hl (k := 0) rfl (by decide) (by decide) rfl (fun ls hl => ?_)
  refine lv_goto (tgt := 4) hx hb dX10_oneOf_36 (by decide) ?_
  refine lv_iload_n hx hb dX10_oneOf_4 rfl (lv_at hl 0 rfl) ?_
  refine lv_aload_n hx hb dX10_oneOf_5 rfl (lv_at hl 3 rfl) ?_
  refine va_alen (ty := .char) (v := 7) hx hb hK hP 0 0 rfl rfl rfl dX10_oneOf_6 ?_
  refine lv_icmp_ge (tgt := 39) hx hb dX10_oneOf_7 (by decide) (fun c => absurd c (by decide)) (fun _ => ?_)
  refine lv_aload_n hx hb dX10_oneOf_10 rfl (lv_at hl 2 rfl) ?_
  refine va_get (D := D) (ci := 10) (v := .int 1) (C := RX10) (T := TX10) (N := 34) hx hb hts iw_k_X10_oneOf_X10 hown hK hP 1 rfl rfl 17 (by decide) (hts (.fieldLink RX10 105 "TopTurnedModel" "well" "Z") (by decide +kernel)) (fun _ h9 => h9) rfl dX10_oneOf_11 ?_
  refine lv_if_eq (tgt := 39) hx hb dX10_oneOf_14 (by decide) (fun c => absurd c (by decide)) (fun _ => ?_)
  refine lv_iload_n hx hb dX10_oneOf_17 rfl (lv_at hl 1 rfl) ?_
  refine lv_if_ge (tgt := 39) hx hb dX10_oneOf_18 (by decide) (fun c => absurd c (by decide)) (fun _ => ?_)
  refine lv_aload_n hx hb dX10_oneOf_21 rfl (lv_at hl 2 rfl) ?_
  refine lv_aload_n hx hb dX10_oneOf_22 rfl (lv_at hl 3 rfl) ?_
  refine lv_iload_n hx hb dX10_oneOf_23 rfl (lv_at hl 0 rfl) ?_
  refine va_cald (i := 5) hx hb hK hP 0 0 rfl rfl (vp_in_iff.mpr (by decide)) dX10_oneOf_24 ?_
  refine kt_eq (y := 99) (by decide +kernel) ?_
  have hPc := hP.sub (ws' := [(h0, .inr (10, [.ref h2, .ref h3, .ref h4, .ref h5, .ref h6, .ref h7, .ref h8, .int 0, .ref h9, .ref h10, .ref h11, .ref h12, .ref h13, .ref h14, .ref h15, .int 0, .int 0, .int 1, .ref h1, .ref h16, .int 0, .int 0, .int 0, .ref h17, .ref h18, .ref h19, .ref h20, .ref h21, .ref h22, .ref h23, .int 0, .ref h24, .int 0, .ref h25]))]) [1] rfl
  have hDc := hD.sub (ws' := [(h0, .inr (10, [.ref h2, .ref h3, .ref h4, .ref h5, .ref h6, .ref h7, .ref h8, .int 0, .ref h9, .ref h10, .ref h11, .ref h12, .ref h13, .ref h14, .ref h15, .int 0, .int 0, .int 1, .ref h1, .ref h16, .int 0, .int 0, .int 0, .ref h17, .ref h18, .ref h19, .ref h20, .ref h21, .ref h22, .ref h23, .int 0, .ref h24, .int 0, .ref h25]))]) [1] (by decide) rfl
  refine va_calli (va_runV (As := [.int 99]) (rest := []) ⟨hx, hb, hml, hown, hts⟩ (k_X10_comes_5 l D cC cI cZ h0 h2 h3 h4 h5 h6 h7 h8 h9 h10 h11 h12 h13 h14 h15 h1 h16 h17 h18 h19 h20 h21 h22 h23 h24 h25 H.size ) (cwV (C := RX10) 1 hts (goodIn_app (goodIn_of _ (by decide +kernel)) gc_k_X10_oneOf_k_X10_comes_5) rfl rfl rfl (by decide +kernel) ⟨(Nat.le_of_ble_eq_true rfl), (Nat.le_of_ble_eq_true rfl)⟩) (kPreV hK hPc hDc (va_recv hK hPc (ci := 10) (q0 := 0) rfl rfl)) rfl rfl hl.1 rfl (lv_room (Nat.le_of_ble_eq_true rfl)) dX10_oneOf_25 ⟨(Nat.le_of_ble_eq_true rfl), (Nat.le_of_ble_eq_true rfl)⟩) hS (fun q _ h => False.elim h) (fun q h => False.elim h) (fun r6 u t H1 locs ht hvm hw hB hz1 hk1 hS => ?_)
  have hP := hP.kept (H1 := H1) (fun k q hk => hk1 q.1 (hP k q hk).lt (fun h => h))
  generalize H1 = H at hP hS ⊢
  have hw : r6 = 0 := hw
  subst hw
  refine lv_if_eq (tgt := 33) hx hb dX10_oneOf_28 (by decide) (fun _ => ?_) (fun c => absurd (by decide) c)
  refine lv_iinc (v := 6) (lv' := [(3, .int 6), (2, .int (-1)), (0, .ref h0), (1, .ref h1)]) hx hb dX10_oneOf_33 hl (k := 0) rfl (by decide) (by decide) rfl (fun ls hl => ?_)
  refine lv_goto (tgt := 4) hx hb dX10_oneOf_36 (by decide) ?_
  refine lv_iload_n hx hb dX10_oneOf_4 rfl (lv_at hl 0 rfl) ?_
  refine lv_aload_n hx hb dX10_oneOf_5 rfl (lv_at hl 3 rfl) ?_
  refine va_alen (ty := .char) (v := 7) hx hb hK hP 0 0 rfl rfl rfl dX10_oneOf_6 ?_
  refine lv_icmp_ge (tgt := 39) hx hb dX10_oneOf_7 (by decide) (fun c => absurd c (by decide)) (fun _ => ?_)
  refine lv_aload_n hx hb dX10_oneOf_10 rfl (lv_at hl 2 rfl) ?_
  refine va_get (D := D) (ci := 10) (v := .int 1) (C := RX10) (T := TX10) (N := 34) hx hb hts iw_k_X10_oneOf_X10 hown hK hP 1 rfl rfl 17 (by decide) (hts (.fieldLink RX10 105 "TopTurnedModel" "well" "Z") (by decide +kernel)) (fun _ h9 => h9) rfl dX10_oneOf_11 ?_
  refine lv_if_eq (tgt := 39) hx hb dX10_oneOf_14 (by decide) (fun c => absurd c (by decide)) (fun _ => ?_)
  refine lv_iload_n hx hb dX10_oneOf_17 rfl (lv_at hl 1 rfl) ?_
  refine lv_if_ge (tgt := 39) hx hb dX10_oneOf_18 (by decide) (fun c => absurd c (by decide)) (fun _ => ?_)
  refine lv_aload_n hx hb dX10_oneOf_21 rfl (lv_at hl 2 rfl) ?_
  refine lv_aload_n hx hb dX10_oneOf_22 rfl (lv_at hl 3 rfl) ?_
  refine lv_iload_n hx hb dX10_oneOf_23 rfl (lv_at hl 0 rfl) ?_
  refine va_cald (i := 6) hx hb hK hP 0 0 rfl rfl (vp_in_iff.mpr (by decide)) dX10_oneOf_24 ?_
  refine kt_eq (y := 115) (by decide +kernel) ?_
  have hPc := hP.sub (ws' := [(h0, .inr (10, [.ref h2, .ref h3, .ref h4, .ref h5, .ref h6, .ref h7, .ref h8, .int 0, .ref h9, .ref h10, .ref h11, .ref h12, .ref h13, .ref h14, .ref h15, .int 0, .int 0, .int 1, .ref h1, .ref h16, .int 0, .int 0, .int 0, .ref h17, .ref h18, .ref h19, .ref h20, .ref h21, .ref h22, .ref h23, .int 0, .ref h24, .int 0, .ref h25]))]) [1] rfl
  have hDc := hD.sub (ws' := [(h0, .inr (10, [.ref h2, .ref h3, .ref h4, .ref h5, .ref h6, .ref h7, .ref h8, .int 0, .ref h9, .ref h10, .ref h11, .ref h12, .ref h13, .ref h14, .ref h15, .int 0, .int 0, .int 1, .ref h1, .ref h16, .int 0, .int 0, .int 0, .ref h17, .ref h18, .ref h19, .ref h20, .ref h21, .ref h22, .ref h23, .int 0, .ref h24, .int 0, .ref h25]))]) [1] (by decide) rfl
  refine va_calli (va_runV (As := [.int 115]) (rest := []) ⟨hx, hb, hml, hown, hts⟩ (k_X10_comes_6 l D cC cI cZ h0 h2 h3 h4 h5 h6 h7 h8 h9 h10 h11 h12 h13 h14 h15 h1 h16 h17 h18 h19 h20 h21 h22 h23 h24 h25 H.size ) (cwV (C := RX10) 1 hts (goodIn_app (goodIn_of _ (by decide +kernel)) gc_k_X10_oneOf_k_X10_comes_6) rfl rfl rfl (by decide +kernel) ⟨(Nat.le_of_ble_eq_true rfl), (Nat.le_of_ble_eq_true rfl)⟩) (kPreV hK hPc hDc (va_recv hK hPc (ci := 10) (q0 := 0) rfl rfl)) rfl rfl hl.1 rfl (lv_room (Nat.le_of_ble_eq_true rfl)) dX10_oneOf_25 ⟨(Nat.le_of_ble_eq_true rfl), (Nat.le_of_ble_eq_true rfl)⟩) hS (fun q _ h => False.elim h) (fun q h => False.elim h) (fun r7 u t H1 locs ht hvm hw hB hz1 hk1 hS => ?_)
  have hP := hP.kept (H1 := H1) (fun k q hk => hk1 q.1 (hP k q hk).lt (fun h => h))
  generalize H1 = H at hP hS ⊢
  have hw : r7 = 0 := hw
  subst hw
  refine lv_if_eq (tgt := 33) hx hb dX10_oneOf_28 (by decide) (fun _ => ?_) (fun c => absurd (by decide) c)
  refine lv_iinc (v := 7) (lv' := [(3, .int 7), (2, .int (-1)), (0, .ref h0), (1, .ref h1)]) hx hb dX10_oneOf_33 hl (k := 0) rfl (by decide) (by decide) rfl (fun ls hl => ?_)
  refine lv_goto (tgt := 4) hx hb dX10_oneOf_36 (by decide) ?_
  refine lv_iload_n hx hb dX10_oneOf_4 rfl (lv_at hl 0 rfl) ?_
  refine lv_aload_n hx hb dX10_oneOf_5 rfl (lv_at hl 3 rfl) ?_
  refine va_alen (ty := .char) (v := 7) hx hb hK hP 0 0 rfl rfl rfl dX10_oneOf_6 ?_
  refine lv_icmp_ge (tgt := 39) hx hb dX10_oneOf_7 (by decide) (fun _ => ?_) (fun c => absurd (by decide) c)
  refine lv_iload_n hx hb dX10_oneOf_39 rfl (lv_at hl 1 rfl) ?_
  refine lv_if_ge (tgt := 50) hx hb dX10_oneOf_40 (by decide) (fun c => absurd c (by decide)) (fun _ => ?_)
  refine lv_aload_n hx hb dX10_oneOf_43 rfl (lv_at hl 2 rfl) ?_
  refine lv_iconst (v := 0) hx hb dX10_oneOf_44 (by decide) ?_
  refine va_put (D := D) (ci := 10) (v := .int 0) (ty := .boolean) (C := RX10) (T := TX10) (N := 34) hx hb hts iw_k_X10_oneOf_X10 tyX10 tyX10_ok nmX10 hown hK hP hD hS 1 rfl rfl 17 (by decide) (hts (.fieldLink RX10 105 "TopTurnedModel" "well" "Z") (by decide +kernel)) (fun _ h9 => h9) rfl (by decide +kernel) rfl rfl (Nat.le_of_ble_eq_true rfl) dX10_oneOf_45 (fun H locs hP hD hS => ?_)
  have hP : va_P D vwCl [(h1, .inl (cC, 7, .inl (upd (upd (upd (upd (upd (upd (upd (fun _ => 0) (Int32.toNatClampNeg 0) (vp_nar .char 112)) (Int32.toNatClampNeg 1) (vp_nar .char 108)) (Int32.toNatClampNeg 2) (vp_nar .char 109)) (Int32.toNatClampNeg 3) (vp_nar .char 107)) (Int32.toNatClampNeg 4) (vp_nar .char 98)) (Int32.toNatClampNeg 5) (vp_nar .char 99)) (Int32.toNatClampNeg 6) (vp_nar .char 115)))), (h0, .inr (10, [.ref h2, .ref h3, .ref h4, .ref h5, .ref h6, .ref h7, .ref h8, .int 0, .ref h9, .ref h10, .ref h11, .ref h12, .ref h13, .ref h14, .ref h15, .int 0, .int 0, .int 0, .ref h1, .ref h16, .int 0, .int 0, .int 0, .ref h17, .ref h18, .ref h19, .ref h20, .ref h21, .ref h22, .ref h23, .int 0, .ref h24, .int 0, .ref h25]))] H := hP
  have hD : va_D A [(h1, .inl (cC, 7, .inl (upd (upd (upd (upd (upd (upd (upd (fun _ => 0) (Int32.toNatClampNeg 0) (vp_nar .char 112)) (Int32.toNatClampNeg 1) (vp_nar .char 108)) (Int32.toNatClampNeg 2) (vp_nar .char 109)) (Int32.toNatClampNeg 3) (vp_nar .char 107)) (Int32.toNatClampNeg 4) (vp_nar .char 98)) (Int32.toNatClampNeg 5) (vp_nar .char 99)) (Int32.toNatClampNeg 6) (vp_nar .char 115)))), (h0, .inr (10, [.ref h2, .ref h3, .ref h4, .ref h5, .ref h6, .ref h7, .ref h8, .int 0, .ref h9, .ref h10, .ref h11, .ref h12, .ref h13, .ref h14, .ref h15, .int 0, .int 0, .int 0, .ref h1, .ref h16, .int 0, .int 0, .int 0, .ref h17, .ref h18, .ref h19, .ref h20, .ref h21, .ref h22, .ref h23, .int 0, .ref h24, .int 0, .ref h25]))] := hD
  refine lv_iconst (v := 0) hx hb dX10_oneOf_48 (by decide) ?_
  refine W.widen (k := 0) (n := 0) (Nat.le_of_ble_eq_true rfl) (Nat.le_of_ble_eq_true rfl) ?_
  have hP9 := hP.sub (ws' := [(h1, .inl (cC, 7, .inl (upd (upd (upd (upd (upd (upd (upd (fun _ => 0) (Int32.toNatClampNeg 0) (vp_nar .char 112)) (Int32.toNatClampNeg 1) (vp_nar .char 108)) (Int32.toNatClampNeg 2) (vp_nar .char 109)) (Int32.toNatClampNeg 3) (vp_nar .char 107)) (Int32.toNatClampNeg 4) (vp_nar .char 98)) (Int32.toNatClampNeg 5) (vp_nar .char 99)) (Int32.toNatClampNeg 6) (vp_nar .char 115)))), (h0, .inr (10, [.ref h2, .ref h3, .ref h4, .ref h5, .ref h6, .ref h7, .ref h8, .int 0, .ref h9, .ref h10, .ref h11, .ref h12, .ref h13, .ref h14, .ref h15, .int 0, .int 0, .int 0, .ref h1, .ref h16, .int 0, .int 0, .int 0, .ref h17, .ref h18, .ref h19, .ref h20, .ref h21, .ref h22, .ref h23, .int 0, .ref h24, .int 0, .ref h25]))]) [0, 1] rfl
  have hD9 := hD.sub (ws' := [(h1, .inl (cC, 7, .inl (upd (upd (upd (upd (upd (upd (upd (fun _ => 0) (Int32.toNatClampNeg 0) (vp_nar .char 112)) (Int32.toNatClampNeg 1) (vp_nar .char 108)) (Int32.toNatClampNeg 2) (vp_nar .char 109)) (Int32.toNatClampNeg 3) (vp_nar .char 107)) (Int32.toNatClampNeg 4) (vp_nar .char 98)) (Int32.toNatClampNeg 5) (vp_nar .char 99)) (Int32.toNatClampNeg 6) (vp_nar .char 115)))), (h0, .inr (10, [.ref h2, .ref h3, .ref h4, .ref h5, .ref h6, .ref h7, .ref h8, .int 0, .ref h9, .ref h10, .ref h11, .ref h12, .ref h13, .ref h14, .ref h15, .int 0, .int 0, .int 0, .ref h1, .ref h16, .int 0, .int 0, .int 0, .ref h17, .ref h18, .ref h19, .ref h20, .ref h21, .ref h22, .ref h23, .int 0, .ref h24, .int 0, .ref h25]))]) [0, 1] (by decide) rfl
  exact W.iret (v := 0) hx hb hr (fun t ht hW => ⟨⟨0, (), rfl, rfl, ⟨by rw [ht]; exact hP9, hD9⟩⟩, hS.F ht⟩) hS.2.2 dX10_oneOf_49
def sw_k_X10_figure : List Cond := .code yX10_figure cX10_figure 1 (some .int) :: (([.fieldLink RX10 105 "TopTurnedModel" "well" "Z"] : List Cond) ++ (wsX100 ++ (([] : List Cond))))
theorem gd_k_X10_figure : ∀ w ∈ sw_k_X10_figure, (w.onTables && w.keeps) = true ∨ ∃ ty, w = .arrayClass ty := List.forall_mem_cons.mpr ⟨good_of_word rfl, List.forall_mem_append.mpr ⟨fun w h => good_of_word (List.all_eq_true.mp (by decide +kernel : (([.fieldLink RX10 105 "TopTurnedModel" "well" "Z"] : List Cond)).all goodWord = true) w h), List.forall_mem_append.mpr ⟨gw_X10, fun _ h => absurd h List.not_mem_nil⟩⟩⟩
theorem iw_k_X10_figure_X10 : ∀ w ∈ wsX100, w ∈ sw_k_X10_figure := fun _ h => List.mem_cons_of_mem _ (List.mem_append_right _ (List.mem_append_left _ h))
set_option maxHeartbeats 4000000 in
set_option maxRecDepth 100000 in
theorem k_X10_figure (l : Launch) (D : va_G) (cC cI cZ : ClassId) (h0 h1 h2 h3 h4 h5 h6 h7 h8 h9 h10 h11 h12 h13 h14 h15 h16 h17 h18 h19 h20 h21 h22 h23 h24 h25 : Nat) (sz : Nat) : Met l yX10_figure sw_k_X10_figure ({ frames := 2, cells := 0, slots := 0, locals := 100 }) (va_Pc [.ref h0] (kPre D cC cI cZ [(h0, .inr (10, [.ref h1, .ref h2, .ref h3, .ref h4, .ref h5, .ref h6, .ref h7, .int 0, .ref h8, .ref h9, .ref h10, .ref h11, .ref h12, .ref h13, .ref h14, .int 0, .int 0, .int 0, .ref h15, .ref h16, .int 0, .int 0, .int 0, .ref h17, .ref h18, .ref h19, .ref h20, .ref h21, .ref h22, .ref h23, .int 0, .ref h24, .int 0, .ref h25]))] sz)) (va_Qi (fun (r : Int32) (_ : Unit) => r = 0) (fun _ t => va_P D vwCl [(h0, .inr (10, [.ref h1, .ref h2, .ref h3, .ref h4, .ref h5, .ref h6, .ref h7, .int 0, .ref h8, .ref h9, .ref h10, .ref h11, .ref h12, .ref h13, .ref h14, .int 0, .int 0, .int 0, .ref h15, .ref h16, .int 0, .int 0, .int 0, .ref h17, .ref h18, .ref h19, .ref h20, .ref h21, .ref h22, .ref h23, .int 0, .ref h24, .int 0, .ref h25]))] t.heap ∧ va_D (va_A [(h0, .inr (10, [.ref h1, .ref h2, .ref h3, .ref h4, .ref h5, .ref h6, .ref h7, .int 0, .ref h8, .ref h9, .ref h10, .ref h11, .ref h12, .ref h13, .ref h14, .int 0, .int 0, .int 0, .ref h15, .ref h16, .int 0, .int 0, .int 0, .ref h17, .ref h18, .ref h19, .ref h20, .ref h21, .ref h22, .ref h23, .int 0, .ref h24, .int 0, .ref h25]))] sz) [(h0, .inr (10, [.ref h1, .ref h2, .ref h3, .ref h4, .ref h5, .ref h6, .ref h7, .int 0, .ref h8, .ref h9, .ref h10, .ref h11, .ref h12, .ref h13, .ref h14, .int 0, .int 0, .int 0, .ref h15, .ref h16, .int 0, .int 0, .int 0, .ref h17, .ref h18, .ref h19, .ref h20, .ref h21, .ref h22, .ref h23, .int 0, .ref h24, .int 0, .ref h25]))]) (va_A [(h0, .inr (10, [.ref h1, .ref h2, .ref h3, .ref h4, .ref h5, .ref h6, .ref h7, .int 0, .ref h8, .ref h9, .ref h10, .ref h11, .ref h12, .ref h13, .ref h14, .int 0, .int 0, .int 0, .ref h15, .ref h16, .int 0, .int 0, .int 0, .ref h17, .ref h18, .ref h19, .ref h20, .ref h21, .ref h22, .ref h23, .int 0, .ref h24, .int 0, .ref h25]))] sz)) 0 0 (va_A [(h0, .inr (10, [.ref h1, .ref h2, .ref h3, .ref h4, .ref h5, .ref h6, .ref h7, .int 0, .ref h8, .ref h9, .ref h10, .ref h11, .ref h12, .ref h13, .ref h14, .int 0, .int 0, .int 0, .ref h15, .ref h16, .int 0, .int 0, .int 0, .ref h17, .ref h18, .ref h19, .ref h20, .ref h21, .ref h22, .ref h23, .int 0, .ref h24, .int 0, .ref h25]))] sz) := by
  refine Met.ofW (cc := cX10_figure) (maxL := 1) (ret := (some .int)) (by decide) rfl ?_
  intro p e s m args below meth c s₁ B hml hv
  obtain ⟨rfl, hsz, hP, hK, hD0⟩ := hv
  have hx := B.exec
  have hb := B.bytes
  have hr := B.returns
  have hts := atoms_spec (ws := sw_k_X10_figure) B.pre
  have hown : s.vm.findClass RX10 = some m.cls := findClass_of_methodNamed B.named
  have hlocks := B.notSynchronized
  subst hsz
  have hD := hD0.self (sz := s.heap.size)
  generalize hAe : va_A [(h0, .inr (10, [.ref h1, .ref h2, .ref h3, .ref h4, .ref h5, .ref h6, .ref h7, .int 0, .ref h8, .ref h9, .ref h10, .ref h11, .ref h12, .ref h13, .ref h14, .int 0, .int 0, .int 0, .ref h15, .ref h16, .int 0, .int 0, .int 0, .ref h17, .ref h18, .ref h19, .ref h20, .ref h21, .ref h22, .ref h23, .int 0, .ref h24, .int 0, .ref h25]))] s.heap.size = A at hD ⊢
  have hA : ∀ q : Nat, s.heap.size ≤ q → A q := fun q h => by rw [← hAe]; exact Or.inr h
  have hS : va_S A s.heap s.heap [] := va_S.rf
  have hl := lv_entry ([.ref h0]) (n := 1) (Nat.le_of_ble_eq_true rfl)
  rw [lg_entry_eq]
  generalize (lg_sl ([.ref h0]) ++ List.replicate (1 - (lg_sl ([.ref h0])).length) Slot.unset).toArray = ls at hl ⊢
  have hl : lv_has ls 1 [(0, .ref h0)] := hl
  refine lv_aload_n hx hb dX10_figure_0 rfl (lv_at hl 0 rfl) ?_
  refine va_get (D := D) (ci := 10) (v := .int 0) (C := RX10) (T := TX10) (N := 34) hx hb hts iw_k_X10_figure_X10 hown hK hP 0 rfl rfl 17 (by decide) (hts (.fieldLink RX10 105 "TopTurnedModel" "well" "Z") (by decide +kernel)) (fun _ h9 => h9) rfl dX10_figure_1 ?_
  refine lv_if_eq (tgt := 46) hx hb dX10_figure_4 (by decide) (fun _ => ?_) (fun c => absurd (by decide) c)
  refine lv_aload_n hx hb dX10_figure_46 rfl (lv_at hl 0 rfl) ?_
  refine lv_iconst (v := 0) hx hb dX10_figure_47 (by decide) ?_
  refine va_put (D := D) (ci := 10) (v := .int 0) (ty := .boolean) (C := RX10) (T := TX10) (N := 34) hx hb hts iw_k_X10_figure_X10 tyX10 tyX10_ok nmX10 hown hK hP hD hS 0 rfl rfl 17 (by decide) (hts (.fieldLink RX10 105 "TopTurnedModel" "well" "Z") (by decide +kernel)) (fun _ h9 => h9) rfl (by decide +kernel) rfl rfl (Nat.le_of_ble_eq_true rfl) dX10_figure_48 (fun H locs hP hD hS => ?_)
  have hP : va_P D vwCl [(h0, .inr (10, [.ref h1, .ref h2, .ref h3, .ref h4, .ref h5, .ref h6, .ref h7, .int 0, .ref h8, .ref h9, .ref h10, .ref h11, .ref h12, .ref h13, .ref h14, .int 0, .int 0, .int 0, .ref h15, .ref h16, .int 0, .int 0, .int 0, .ref h17, .ref h18, .ref h19, .ref h20, .ref h21, .ref h22, .ref h23, .int 0, .ref h24, .int 0, .ref h25]))] H := hP
  have hD : va_D A [(h0, .inr (10, [.ref h1, .ref h2, .ref h3, .ref h4, .ref h5, .ref h6, .ref h7, .int 0, .ref h8, .ref h9, .ref h10, .ref h11, .ref h12, .ref h13, .ref h14, .int 0, .int 0, .int 0, .ref h15, .ref h16, .int 0, .int 0, .int 0, .ref h17, .ref h18, .ref h19, .ref h20, .ref h21, .ref h22, .ref h23, .int 0, .ref h24, .int 0, .ref h25]))] := hD
  refine lv_iconst (v := 0) hx hb dX10_figure_51 (by decide) ?_
  refine W.widen (k := 0) (n := 0) (Nat.le_of_ble_eq_true rfl) (Nat.le_of_ble_eq_true rfl) ?_
  have hP9 := hP.sub (ws' := [(h0, .inr (10, [.ref h1, .ref h2, .ref h3, .ref h4, .ref h5, .ref h6, .ref h7, .int 0, .ref h8, .ref h9, .ref h10, .ref h11, .ref h12, .ref h13, .ref h14, .int 0, .int 0, .int 0, .ref h15, .ref h16, .int 0, .int 0, .int 0, .ref h17, .ref h18, .ref h19, .ref h20, .ref h21, .ref h22, .ref h23, .int 0, .ref h24, .int 0, .ref h25]))]) [0] rfl
  have hD9 := hD.sub (ws' := [(h0, .inr (10, [.ref h1, .ref h2, .ref h3, .ref h4, .ref h5, .ref h6, .ref h7, .int 0, .ref h8, .ref h9, .ref h10, .ref h11, .ref h12, .ref h13, .ref h14, .int 0, .int 0, .int 0, .ref h15, .ref h16, .int 0, .int 0, .int 0, .ref h17, .ref h18, .ref h19, .ref h20, .ref h21, .ref h22, .ref h23, .int 0, .ref h24, .int 0, .ref h25]))]) [0] (by decide) rfl
  exact W.iret (v := 0) hx hb hr (fun t ht hW => ⟨⟨0, (), rfl, rfl, ⟨by rw [ht]; exact hP9, hD9⟩⟩, hS.F ht⟩) hS.2.2 dX10_figure_52
def sw_k_X10_oneOf_1 : List Cond := .code yX10_oneOf cX10_oneOf 4 (some .int) :: (([.fieldLink RX10 105 "TopTurnedModel" "well" "Z"] : List Cond) ++ (wsX100 ++ (([] : List Cond))))
theorem gd_k_X10_oneOf_1 : ∀ w ∈ sw_k_X10_oneOf_1, (w.onTables && w.keeps) = true ∨ ∃ ty, w = .arrayClass ty := List.forall_mem_cons.mpr ⟨good_of_word rfl, List.forall_mem_append.mpr ⟨fun w h => good_of_word (List.all_eq_true.mp (by decide +kernel : (([.fieldLink RX10 105 "TopTurnedModel" "well" "Z"] : List Cond)).all goodWord = true) w h), List.forall_mem_append.mpr ⟨gw_X10, fun _ h => absurd h List.not_mem_nil⟩⟩⟩
theorem iw_k_X10_oneOf_1_X10 : ∀ w ∈ wsX100, w ∈ sw_k_X10_oneOf_1 := fun _ h => List.mem_cons_of_mem _ (List.mem_append_right _ (List.mem_append_left _ h))
set_option maxHeartbeats 4000000 in
set_option maxRecDepth 100000 in
theorem k_X10_oneOf_1 (l : Launch) (D : va_G) (cC cI cZ : ClassId) (h0 h1 h2 h3 h4 h5 h6 h7 h8 h9 h10 h11 h12 h13 h14 h15 h16 h17 h18 h19 h20 h21 h22 h23 h24 h25 : Nat) (sz : Nat) : Met l yX10_oneOf sw_k_X10_oneOf_1 ({ frames := 2, cells := 0, slots := 0, locals := 100 }) (va_Pc [.ref h0, .ref h1] (kPre D cC cI cZ [(h1, .inl (cC, 2, .inl (upd (upd (fun _ => 0) (Int32.toNatClampNeg 0) (vp_nar .char 43)) (Int32.toNatClampNeg 1) (vp_nar .char 45)))), (h0, .inr (10, [.ref h2, .ref h3, .ref h4, .ref h5, .ref h6, .ref h7, .ref h8, .int 0, .ref h9, .ref h10, .ref h11, .ref h12, .ref h13, .ref h14, .ref h15, .int 0, .int 0, .int 0, .ref h16, .ref h1, .int 0, .int 0, .int 0, .ref h17, .ref h18, .ref h19, .ref h20, .ref h21, .ref h22, .ref h23, .int 0, .ref h24, .int 0, .ref h25]))] sz)) (va_Qi (fun (r : Int32) (_ : Unit) => r = 0) (fun _ t => va_P D vwCl [(h1, .inl (cC, 2, .inl (upd (upd (fun _ => 0) (Int32.toNatClampNeg 0) (vp_nar .char 43)) (Int32.toNatClampNeg 1) (vp_nar .char 45)))), (h0, .inr (10, [.ref h2, .ref h3, .ref h4, .ref h5, .ref h6, .ref h7, .ref h8, .int 0, .ref h9, .ref h10, .ref h11, .ref h12, .ref h13, .ref h14, .ref h15, .int 0, .int 0, .int 0, .ref h16, .ref h1, .int 0, .int 0, .int 0, .ref h17, .ref h18, .ref h19, .ref h20, .ref h21, .ref h22, .ref h23, .int 0, .ref h24, .int 0, .ref h25]))] t.heap ∧ va_D (va_A [(h1, .inl (cC, 2, .inl (upd (upd (fun _ => 0) (Int32.toNatClampNeg 0) (vp_nar .char 43)) (Int32.toNatClampNeg 1) (vp_nar .char 45)))), (h0, .inr (10, [.ref h2, .ref h3, .ref h4, .ref h5, .ref h6, .ref h7, .ref h8, .int 0, .ref h9, .ref h10, .ref h11, .ref h12, .ref h13, .ref h14, .ref h15, .int 0, .int 0, .int 0, .ref h16, .ref h1, .int 0, .int 0, .int 0, .ref h17, .ref h18, .ref h19, .ref h20, .ref h21, .ref h22, .ref h23, .int 0, .ref h24, .int 0, .ref h25]))] sz) [(h1, .inl (cC, 2, .inl (upd (upd (fun _ => 0) (Int32.toNatClampNeg 0) (vp_nar .char 43)) (Int32.toNatClampNeg 1) (vp_nar .char 45)))), (h0, .inr (10, [.ref h2, .ref h3, .ref h4, .ref h5, .ref h6, .ref h7, .ref h8, .int 0, .ref h9, .ref h10, .ref h11, .ref h12, .ref h13, .ref h14, .ref h15, .int 0, .int 0, .int 0, .ref h16, .ref h1, .int 0, .int 0, .int 0, .ref h17, .ref h18, .ref h19, .ref h20, .ref h21, .ref h22, .ref h23, .int 0, .ref h24, .int 0, .ref h25]))]) (va_A [(h1, .inl (cC, 2, .inl (upd (upd (fun _ => 0) (Int32.toNatClampNeg 0) (vp_nar .char 43)) (Int32.toNatClampNeg 1) (vp_nar .char 45)))), (h0, .inr (10, [.ref h2, .ref h3, .ref h4, .ref h5, .ref h6, .ref h7, .ref h8, .int 0, .ref h9, .ref h10, .ref h11, .ref h12, .ref h13, .ref h14, .ref h15, .int 0, .int 0, .int 0, .ref h16, .ref h1, .int 0, .int 0, .int 0, .ref h17, .ref h18, .ref h19, .ref h20, .ref h21, .ref h22, .ref h23, .int 0, .ref h24, .int 0, .ref h25]))] sz)) 0 0 (va_A [(h1, .inl (cC, 2, .inl (upd (upd (fun _ => 0) (Int32.toNatClampNeg 0) (vp_nar .char 43)) (Int32.toNatClampNeg 1) (vp_nar .char 45)))), (h0, .inr (10, [.ref h2, .ref h3, .ref h4, .ref h5, .ref h6, .ref h7, .ref h8, .int 0, .ref h9, .ref h10, .ref h11, .ref h12, .ref h13, .ref h14, .ref h15, .int 0, .int 0, .int 0, .ref h16, .ref h1, .int 0, .int 0, .int 0, .ref h17, .ref h18, .ref h19, .ref h20, .ref h21, .ref h22, .ref h23, .int 0, .ref h24, .int 0, .ref h25]))] sz) := by
  refine Met.ofW (cc := cX10_oneOf) (maxL := 4) (ret := (some .int)) (by decide) rfl ?_
  intro p e s m args below meth c s₁ B hml hv
  obtain ⟨rfl, hsz, hP, hK, hD0⟩ := hv
  have hx := B.exec
  have hb := B.bytes
  have hr := B.returns
  have hts := atoms_spec (ws := sw_k_X10_oneOf_1) B.pre
  have hown : s.vm.findClass RX10 = some m.cls := findClass_of_methodNamed B.named
  have hlocks := B.notSynchronized
  subst hsz
  have hD := hD0.self (sz := s.heap.size)
  generalize hAe : va_A [(h1, .inl (cC, 2, .inl (upd (upd (fun _ => 0) (Int32.toNatClampNeg 0) (vp_nar .char 43)) (Int32.toNatClampNeg 1) (vp_nar .char 45)))), (h0, .inr (10, [.ref h2, .ref h3, .ref h4, .ref h5, .ref h6, .ref h7, .ref h8, .int 0, .ref h9, .ref h10, .ref h11, .ref h12, .ref h13, .ref h14, .ref h15, .int 0, .int 0, .int 0, .ref h16, .ref h1, .int 0, .int 0, .int 0, .ref h17, .ref h18, .ref h19, .ref h20, .ref h21, .ref h22, .ref h23, .int 0, .ref h24, .int 0, .ref h25]))] s.heap.size = A at hD ⊢
  have hA : ∀ q : Nat, s.heap.size ≤ q → A q := fun q h => by rw [← hAe]; exact Or.inr h
  have hS : va_S A s.heap s.heap [] := va_S.rf
  have hl := lv_entry ([.ref h0, .ref h1]) (n := 4) (Nat.le_of_ble_eq_true rfl)
  rw [lg_entry_eq]
  generalize (lg_sl ([.ref h0, .ref h1]) ++ List.replicate (4 - (lg_sl ([.ref h0, .ref h1])).length) Slot.unset).toArray = ls at hl ⊢
  have hl : lv_has ls 4 [(0, .ref h0), (1, .ref h1)] := hl
  refine lv_iconst (v := (-1)) hx hb dX10_oneOf_0 (by decide) ?_
  refine lv_istore_n (lv' := [(2, .int (-1)), (0, .ref h0), (1, .ref h1)]) hx hb dX10_oneOf_1 rfl hl (by decide) rfl (fun ls hl => ?_)
  refine lv_iconst (v := 0) hx hb dX10_oneOf_2 (by decide) ?_
  refine lv_istore_n (lv' := [(3, .int 0), (2, .int (-1)), (0, .ref h0), (1, .ref h1)]) hx hb dX10_oneOf_3 rfl hl (by decide) rfl (fun ls hl => ?_)
  refine lv_iload_n hx hb dX10_oneOf_4 rfl (lv_at hl 0 rfl) ?_
  refine lv_aload_n hx hb dX10_oneOf_5 rfl (lv_at hl 3 rfl) ?_
  refine va_alen (ty := .char) (v := 2) hx hb hK hP 0 0 rfl rfl rfl dX10_oneOf_6 ?_
  refine lv_icmp_ge (tgt := 39) hx hb dX10_oneOf_7 (by decide) (fun c => absurd c (by decide)) (fun _ => ?_)
  refine lv_aload_n hx hb dX10_oneOf_10 rfl (lv_at hl 2 rfl) ?_
  refine va_get (D := D) (ci := 10) (v := .int 0) (C := RX10) (T := TX10) (N := 34) hx hb hts iw_k_X10_oneOf_1_X10 hown hK hP 1 rfl rfl 17 (by decide) (hts (.fieldLink RX10 105 "TopTurnedModel" "well" "Z") (by decide +kernel)) (fun _ h9 => h9) rfl dX10_oneOf_11 ?_
  refine lv_if_eq (tgt := 39) hx hb dX10_oneOf_14 (by decide) (fun _ => ?_) (fun c => absurd (by decide) c)
  refine lv_iload_n hx hb dX10_oneOf_39 rfl (lv_at hl 1 rfl) ?_
  refine lv_if_ge (tgt := 50) hx hb dX10_oneOf_40 (by decide) (fun c => absurd c (by decide)) (fun _ => ?_)
  refine lv_aload_n hx hb dX10_oneOf_43 rfl (lv_at hl 2 rfl) ?_
  refine lv_iconst (v := 0) hx hb dX10_oneOf_44 (by decide) ?_
  refine va_put (D := D) (ci := 10) (v := .int 0) (ty := .boolean) (C := RX10) (T := TX10) (N := 34) hx hb hts iw_k_X10_oneOf_1_X10 tyX10 tyX10_ok nmX10 hown hK hP hD hS 1 rfl rfl 17 (by decide) (hts (.fieldLink RX10 105 "TopTurnedModel" "well" "Z") (by decide +kernel)) (fun _ h9 => h9) rfl (by decide +kernel) rfl rfl (Nat.le_of_ble_eq_true rfl) dX10_oneOf_45 (fun H locs hP hD hS => ?_)
  have hP : va_P D vwCl [(h1, .inl (cC, 2, .inl (upd (upd (fun _ => 0) (Int32.toNatClampNeg 0) (vp_nar .char 43)) (Int32.toNatClampNeg 1) (vp_nar .char 45)))), (h0, .inr (10, [.ref h2, .ref h3, .ref h4, .ref h5, .ref h6, .ref h7, .ref h8, .int 0, .ref h9, .ref h10, .ref h11, .ref h12, .ref h13, .ref h14, .ref h15, .int 0, .int 0, .int 0, .ref h16, .ref h1, .int 0, .int 0, .int 0, .ref h17, .ref h18, .ref h19, .ref h20, .ref h21, .ref h22, .ref h23, .int 0, .ref h24, .int 0, .ref h25]))] H := hP
  have hD : va_D A [(h1, .inl (cC, 2, .inl (upd (upd (fun _ => 0) (Int32.toNatClampNeg 0) (vp_nar .char 43)) (Int32.toNatClampNeg 1) (vp_nar .char 45)))), (h0, .inr (10, [.ref h2, .ref h3, .ref h4, .ref h5, .ref h6, .ref h7, .ref h8, .int 0, .ref h9, .ref h10, .ref h11, .ref h12, .ref h13, .ref h14, .ref h15, .int 0, .int 0, .int 0, .ref h16, .ref h1, .int 0, .int 0, .int 0, .ref h17, .ref h18, .ref h19, .ref h20, .ref h21, .ref h22, .ref h23, .int 0, .ref h24, .int 0, .ref h25]))] := hD
  refine lv_iconst (v := 0) hx hb dX10_oneOf_48 (by decide) ?_
  refine W.widen (k := 0) (n := 0) (Nat.le_of_ble_eq_true rfl) (Nat.le_of_ble_eq_true rfl) ?_
  have hP9 := hP.sub (ws' := [(h1, .inl (cC, 2, .inl (upd (upd (fun _ => 0) (Int32.toNatClampNeg 0) (vp_nar .char 43)) (Int32.toNatClampNeg 1) (vp_nar .char 45)))), (h0, .inr (10, [.ref h2, .ref h3, .ref h4, .ref h5, .ref h6, .ref h7, .ref h8, .int 0, .ref h9, .ref h10, .ref h11, .ref h12, .ref h13, .ref h14, .ref h15, .int 0, .int 0, .int 0, .ref h16, .ref h1, .int 0, .int 0, .int 0, .ref h17, .ref h18, .ref h19, .ref h20, .ref h21, .ref h22, .ref h23, .int 0, .ref h24, .int 0, .ref h25]))]) [0, 1] rfl
  have hD9 := hD.sub (ws' := [(h1, .inl (cC, 2, .inl (upd (upd (fun _ => 0) (Int32.toNatClampNeg 0) (vp_nar .char 43)) (Int32.toNatClampNeg 1) (vp_nar .char 45)))), (h0, .inr (10, [.ref h2, .ref h3, .ref h4, .ref h5, .ref h6, .ref h7, .ref h8, .int 0, .ref h9, .ref h10, .ref h11, .ref h12, .ref h13, .ref h14, .ref h15, .int 0, .int 0, .int 0, .ref h16, .ref h1, .int 0, .int 0, .int 0, .ref h17, .ref h18, .ref h19, .ref h20, .ref h21, .ref h22, .ref h23, .int 0, .ref h24, .int 0, .ref h25]))]) [0, 1] (by decide) rfl
  exact W.iret (v := 0) hx hb hr (fun t ht hW => ⟨⟨0, (), rfl, rfl, ⟨by rw [ht]; exact hP9, hD9⟩⟩, hS.F ht⟩) hS.2.2 dX10_oneOf_49
