def sw_k_X10_before : List Cond := .code yX10_before cX10_before 6 (some .int) :: (([.methodLink RX10 190 yX10_many, .instanceMethod yX10_many, .selects RX10 yX10_many yX10_many, .initialized RX10, .fieldLink RX10 68 "TopTurnedModel" "far" "[I", .fieldLink RX10 77 "TopTurnedModel" "line" "[I", .methodLink RX10 202 yX10_now, .instanceMethod yX10_now, .selects RX10 yX10_now yX10_now, .fieldLink RX10 13 "TopTurnedModel" "told" "[I", .methodLink RX10 94 yX10_no, .instanceMethod yX10_no, .selects RX10 yX10_no yX10_no] : List Cond) ++ (sw_k_X10_many ++ (wsX100 ++ (sw_k_X10_now_1 ++ (sw_k_X10_no ++ (sw_k_X10_no_1 ++ (([] : List Cond))))))))
theorem gd_k_X10_before : ∀ w ∈ sw_k_X10_before, (w.onTables && w.keeps) = true ∨ ∃ ty, w = .arrayClass ty := List.forall_mem_cons.mpr ⟨good_of_word rfl, List.forall_mem_append.mpr ⟨fun w h => good_of_word (List.all_eq_true.mp (by decide +kernel : (([.methodLink RX10 190 yX10_many, .instanceMethod yX10_many, .selects RX10 yX10_many yX10_many, .initialized RX10, .fieldLink RX10 68 "TopTurnedModel" "far" "[I", .fieldLink RX10 77 "TopTurnedModel" "line" "[I", .methodLink RX10 202 yX10_now, .instanceMethod yX10_now, .selects RX10 yX10_now yX10_now, .fieldLink RX10 13 "TopTurnedModel" "told" "[I", .methodLink RX10 94 yX10_no, .instanceMethod yX10_no, .selects RX10 yX10_no yX10_no] : List Cond)).all goodWord = true) w h), List.forall_mem_append.mpr ⟨gd_k_X10_many, List.forall_mem_append.mpr ⟨gw_X10, List.forall_mem_append.mpr ⟨gd_k_X10_now_1, List.forall_mem_append.mpr ⟨gd_k_X10_no, List.forall_mem_append.mpr ⟨gd_k_X10_no_1, fun _ h => absurd h List.not_mem_nil⟩⟩⟩⟩⟩⟩⟩
theorem gc_k_X10_before_k_X10_many : GoodIn sw_k_X10_before sw_k_X10_many := fun w h => ⟨List.mem_cons_of_mem _ (List.mem_append_right _ (List.mem_append_left _ h)), gd_k_X10_many w h⟩
theorem iw_k_X10_before_X10 : ∀ w ∈ wsX100, w ∈ sw_k_X10_before := fun _ h => List.mem_cons_of_mem _ (List.mem_append_right _ (List.mem_append_right _ (List.mem_append_left _ h)))
theorem gc_k_X10_before_k_X10_now_1 : GoodIn sw_k_X10_before sw_k_X10_now_1 := fun w h => ⟨List.mem_cons_of_mem _ (List.mem_append_right _ (List.mem_append_right _ (List.mem_append_right _ (List.mem_append_left _ h)))), gd_k_X10_now_1 w h⟩
theorem gc_k_X10_before_k_X10_no : GoodIn sw_k_X10_before sw_k_X10_no := fun w h => ⟨List.mem_cons_of_mem _ (List.mem_append_right _ (List.mem_append_right _ (List.mem_append_right _ (List.mem_append_right _ (List.mem_append_left _ h))))), gd_k_X10_no w h⟩
theorem gc_k_X10_before_k_X10_no_1 : GoodIn sw_k_X10_before sw_k_X10_no_1 := fun w h => ⟨List.mem_cons_of_mem _ (List.mem_append_right _ (List.mem_append_right _ (List.mem_append_right _ (List.mem_append_right _ (List.mem_append_right _ (List.mem_append_left _ h)))))), gd_k_X10_no_1 w h⟩
set_option maxHeartbeats 4000000 in
set_option maxRecDepth 100000 in
theorem k_X10_before (l : Launch) (D : va_G) (cC cI cZ : ClassId) (h0 h1 h2 h3 h4 h5 h6 h7 h8 h9 h10 h11 h12 h13 h14 h15 h16 h17 h18 h19 h20 h21 h22 h23 h24 h25 : Nat) (sz : Nat) (p1 : Int32) : Met l yX10_before sw_k_X10_before ({ frames := 8, cells := 0, slots := 0, locals := 400 }) (va_Pc [.ref h0, .int p1] (kPre D cC cI cZ [(h0, .inr (10, [.ref h8, .ref h1, .ref h9, .ref h10, .ref h11, .ref h4, .ref h6, .int 0, .ref h12, .ref h13, .ref h14, .ref h15, .ref h16, .ref h17, .ref h18, .int 0, .int 0, .int 0, .ref h19, .ref h20, .int 0, .int 0, .int 0, .ref h5, .ref h7, .ref h21, .ref h2, .ref h22, .ref h23, .ref h3, .int 0, .ref h24, .int 0, .ref h25])), (h1, .inl (cI, 9, .inl (upd (upd (upd (fun _ => 0) (Int32.toNatClampNeg 3) 5) (Int32.toNatClampNeg 4) 9) (Int32.toNatClampNeg 7) 1))), (h2, .inl (cI, 3840, .inl (fun _ => 0))), (h3, .inl (cI, 3840, .inl (fun _ => 0))), (h4, .inl (cI, 5, .inl (fun _ => 0))), (h5, .inl (cI, 5, .inl (fun _ => 0))), (h6, .inl (cI, 5, .inl (fun _ => 0))), (h7, .inl (cI, 5, .inl (fun _ => 0))), (h8, .inl (cI, 7, .inl (fun _ => 0)))] sz)) (va_Qi (fun (r : Int32) (_ : Unit) => r = (if 0 ≤ p1 then (if p1 ≤ 4 then (if p1 = 0 then 1 else 0) else (-6)) else (-4))) (fun _ _ => True) (va_A [(h0, .inr (10, [.ref h8, .ref h1, .ref h9, .ref h10, .ref h11, .ref h4, .ref h6, .int 0, .ref h12, .ref h13, .ref h14, .ref h15, .ref h16, .ref h17, .ref h18, .int 0, .int 0, .int 0, .ref h19, .ref h20, .int 0, .int 0, .int 0, .ref h5, .ref h7, .ref h21, .ref h2, .ref h22, .ref h23, .ref h3, .int 0, .ref h24, .int 0, .ref h25])), (h1, .inl (cI, 9, .inl (upd (upd (upd (fun _ => 0) (Int32.toNatClampNeg 3) 5) (Int32.toNatClampNeg 4) 9) (Int32.toNatClampNeg 7) 1))), (h2, .inl (cI, 3840, .inl (fun _ => 0))), (h3, .inl (cI, 3840, .inl (fun _ => 0))), (h4, .inl (cI, 5, .inl (fun _ => 0))), (h5, .inl (cI, 5, .inl (fun _ => 0))), (h6, .inl (cI, 5, .inl (fun _ => 0))), (h7, .inl (cI, 5, .inl (fun _ => 0))), (h8, .inl (cI, 7, .inl (fun _ => 0)))] sz)) 0 0 (va_A [(h0, .inr (10, [.ref h8, .ref h1, .ref h9, .ref h10, .ref h11, .ref h4, .ref h6, .int 0, .ref h12, .ref h13, .ref h14, .ref h15, .ref h16, .ref h17, .ref h18, .int 0, .int 0, .int 0, .ref h19, .ref h20, .int 0, .int 0, .int 0, .ref h5, .ref h7, .ref h21, .ref h2, .ref h22, .ref h23, .ref h3, .int 0, .ref h24, .int 0, .ref h25])), (h1, .inl (cI, 9, .inl (upd (upd (upd (fun _ => 0) (Int32.toNatClampNeg 3) 5) (Int32.toNatClampNeg 4) 9) (Int32.toNatClampNeg 7) 1))), (h2, .inl (cI, 3840, .inl (fun _ => 0))), (h3, .inl (cI, 3840, .inl (fun _ => 0))), (h4, .inl (cI, 5, .inl (fun _ => 0))), (h5, .inl (cI, 5, .inl (fun _ => 0))), (h6, .inl (cI, 5, .inl (fun _ => 0))), (h7, .inl (cI, 5, .inl (fun _ => 0))), (h8, .inl (cI, 7, .inl (fun _ => 0)))] sz) := by
  refine Met.ofW (cc := cX10_before) (maxL := 6) (ret := (some .int)) (by decide) rfl ?_
  intro p e s m args below meth c s₁ B hml hv
  obtain ⟨rfl, hsz, hP, hK, hD0⟩ := hv
  have hx := B.exec
  have hb := B.bytes
  have hr := B.returns
  have hts := atoms_spec (ws := sw_k_X10_before) B.pre
  have hown : s.vm.findClass RX10 = some m.cls := findClass_of_methodNamed B.named
  have hlocks := B.notSynchronized
  subst hsz
  have hD := hD0.self (sz := s.heap.size)
  generalize hAe : va_A [(h0, .inr (10, [.ref h8, .ref h1, .ref h9, .ref h10, .ref h11, .ref h4, .ref h6, .int 0, .ref h12, .ref h13, .ref h14, .ref h15, .ref h16, .ref h17, .ref h18, .int 0, .int 0, .int 0, .ref h19, .ref h20, .int 0, .int 0, .int 0, .ref h5, .ref h7, .ref h21, .ref h2, .ref h22, .ref h23, .ref h3, .int 0, .ref h24, .int 0, .ref h25])), (h1, .inl (cI, 9, .inl (upd (upd (upd (fun _ => 0) (Int32.toNatClampNeg 3) 5) (Int32.toNatClampNeg 4) 9) (Int32.toNatClampNeg 7) 1))), (h2, .inl (cI, 3840, .inl (fun _ => 0))), (h3, .inl (cI, 3840, .inl (fun _ => 0))), (h4, .inl (cI, 5, .inl (fun _ => 0))), (h5, .inl (cI, 5, .inl (fun _ => 0))), (h6, .inl (cI, 5, .inl (fun _ => 0))), (h7, .inl (cI, 5, .inl (fun _ => 0))), (h8, .inl (cI, 7, .inl (fun _ => 0)))] s.heap.size = A at hD ⊢
  have hA : ∀ q : Nat, s.heap.size ≤ q → A q := fun q h => by rw [← hAe]; exact Or.inr h
  have hS : va_S A s.heap s.heap [] := va_S.rf
  have hl := lv_entry ([.ref h0, .int p1]) (n := 6) (Nat.le_of_ble_eq_true rfl)
  rw [lg_entry_eq]
  generalize (lg_sl ([.ref h0, .int p1]) ++ List.replicate (6 - (lg_sl ([.ref h0, .int p1])).length) Slot.unset).toArray = ls at hl ⊢
  have hl : lv_has ls 6 [(0, .ref h0), (1, .int p1)] := hl
  refine lv_iload_n hx hb dX10_before_0 rfl (lv_at hl 1 rfl) ?_
  refine lv_if_ge (tgt := 11) hx hb dX10_before_1 (by decide) (fun c1 => ?_) (fun c1 => ?_)
  · refine lv_iload_n hx hb dX10_before_11 rfl (lv_at hl 1 rfl) ?_
    refine lv_iconst (v := 4) hx hb dX10_before_12 (by decide) ?_
    refine lv_icmp_le (tgt := 23) hx hb dX10_before_13 (by decide) (fun c2 => ?_) (fun c2 => ?_)
    · rcases (ksp4 p1 c1 c2) with rfl | rfl | rfl | rfl | rfl
      · refine lv_iconst (v := 0) hx hb dX10_before_23 (by decide) ?_
        refine lv_istore_n (lv' := [(2, .int 0), (0, .ref h0), (1, .int 0)]) hx hb dX10_before_24 rfl hl (by decide) rfl (fun ls hl => ?_)
        refine lv_iload_n hx hb dX10_before_25 rfl (lv_at hl 0 rfl) ?_
        refine lv_aload_n hx hb dX10_before_26 rfl (lv_at hl 1 rfl) ?_
        have hPc := hP.sub (ws' := [(h0, .inr (10, [.ref h8, .ref h1, .ref h9, .ref h10, .ref h11, .ref h4, .ref h6, .int 0, .ref h12, .ref h13, .ref h14, .ref h15, .ref h16, .ref h17, .ref h18, .int 0, .int 0, .int 0, .ref h19, .ref h20, .int 0, .int 0, .int 0, .ref h5, .ref h7, .ref h21, .ref h2, .ref h22, .ref h23, .ref h3, .int 0, .ref h24, .int 0, .ref h25])), (h1, .inl (cI, 9, .inl (upd (upd (upd (fun _ => 0) (Int32.toNatClampNeg 3) 5) (Int32.toNatClampNeg 4) 9) (Int32.toNatClampNeg 7) 1)))]) [0, 1] rfl
        have hDc := hD.sub (ws' := [(h0, .inr (10, [.ref h8, .ref h1, .ref h9, .ref h10, .ref h11, .ref h4, .ref h6, .int 0, .ref h12, .ref h13, .ref h14, .ref h15, .ref h16, .ref h17, .ref h18, .int 0, .int 0, .int 0, .ref h19, .ref h20, .int 0, .int 0, .int 0, .ref h5, .ref h7, .ref h21, .ref h2, .ref h22, .ref h23, .ref h3, .int 0, .ref h24, .int 0, .ref h25])), (h1, .inl (cI, 9, .inl (upd (upd (upd (fun _ => 0) (Int32.toNatClampNeg 3) 5) (Int32.toNatClampNeg 4) 9) (Int32.toNatClampNeg 7) 1)))]) [0, 1] (by decide) rfl
        refine va_calli (va_runV (As := []) (rest := [.int 0]) ⟨hx, hb, hml, hown, hts⟩ (k_X10_many l D cC cI cZ h0 h1 h8 h9 h10 h11 h4 h6 h12 h13 h14 h15 h16 h17 h18 h19 h20 h5 h7 h21 h2 h22 h23 h3 h24 h25 s.heap.size ) (cwV (C := RX10) 0 hts (goodIn_app (goodIn_of _ (by decide +kernel)) gc_k_X10_before_k_X10_many) rfl rfl rfl (by decide +kernel) ⟨(Nat.le_of_ble_eq_true rfl), (Nat.le_of_ble_eq_true rfl)⟩) (kPreV hK hPc hDc (va_recv hK hPc (ci := 10) (q0 := 0) rfl rfl)) rfl rfl hl.1 rfl (lv_room (Nat.le_of_ble_eq_true rfl)) dX10_before_27 ⟨(Nat.le_of_ble_eq_true rfl), (Nat.le_of_ble_eq_true rfl)⟩) hS (fun q _ h => False.elim h) (fun q h => False.elim h) (fun r3 u t H1 locs ht hvm hw hB hz1 hk1 hS => ?_)
        have hP := hP.kept (H1 := H1) (fun k q hk => hk1 q.1 (hP k q hk).lt (fun h => h))
        generalize H1 = H at hP hS ⊢
        have hw : r3 = 1 := hw
        subst hw
        refine lv_icmp_ge (tgt := 53) hx hb dX10_before_30 (by decide) (fun c => absurd c (by decide)) (fun _ => ?_)
        refine lv_aload_n hx hb dX10_before_33 rfl (lv_at hl 1 rfl) ?_
        refine va_get (D := D) (ci := 10) (v := .ref h2) (C := RX10) (T := TX10) (N := 34) hx hb hts iw_k_X10_before_X10 hown hK hP 0 rfl rfl 26 (by decide) (hts (.fieldLink RX10 68 "TopTurnedModel" "far" "[I") (by decide +kernel)) (fun _ h9 => h9) rfl dX10_before_34 ?_
        refine lv_iload_n hx hb dX10_before_37 rfl (lv_at hl 0 rfl) ?_
        refine lv_iconst (v := (-1)) hx hb dX10_before_38 (by decide) ?_
        refine va_iast (i := 0) (x := (-1)) hx hb hK hP hD hS 2 1 rfl rfl (vp_in_iff.mpr (by decide)) dX10_before_39 (fun H locs hP hD hS => ?_)
        have hP : va_P D vwCl [(h0, .inr (10, [.ref h8, .ref h1, .ref h9, .ref h10, .ref h11, .ref h4, .ref h6, .int 0, .ref h12, .ref h13, .ref h14, .ref h15, .ref h16, .ref h17, .ref h18, .int 0, .int 0, .int 0, .ref h19, .ref h20, .int 0, .int 0, .int 0, .ref h5, .ref h7, .ref h21, .ref h2, .ref h22, .ref h23, .ref h3, .int 0, .ref h24, .int 0, .ref h25])), (h1, .inl (cI, 9, .inl (upd (upd (upd (fun _ => 0) (Int32.toNatClampNeg 3) 5) (Int32.toNatClampNeg 4) 9) (Int32.toNatClampNeg 7) 1))), (h2, .inl (cI, 3840, .inl (upd (fun _ => 0) (Int32.toNatClampNeg 0) (-1)))), (h3, .inl (cI, 3840, .inl (fun _ => 0))), (h4, .inl (cI, 5, .inl (fun _ => 0))), (h5, .inl (cI, 5, .inl (fun _ => 0))), (h6, .inl (cI, 5, .inl (fun _ => 0))), (h7, .inl (cI, 5, .inl (fun _ => 0))), (h8, .inl (cI, 7, .inl (fun _ => 0)))] H := hP
        have hD : va_D A [(h0, .inr (10, [.ref h8, .ref h1, .ref h9, .ref h10, .ref h11, .ref h4, .ref h6, .int 0, .ref h12, .ref h13, .ref h14, .ref h15, .ref h16, .ref h17, .ref h18, .int 0, .int 0, .int 0, .ref h19, .ref h20, .int 0, .int 0, .int 0, .ref h5, .ref h7, .ref h21, .ref h2, .ref h22, .ref h23, .ref h3, .int 0, .ref h24, .int 0, .ref h25])), (h1, .inl (cI, 9, .inl (upd (upd (upd (fun _ => 0) (Int32.toNatClampNeg 3) 5) (Int32.toNatClampNeg 4) 9) (Int32.toNatClampNeg 7) 1))), (h2, .inl (cI, 3840, .inl (upd (fun _ => 0) (Int32.toNatClampNeg 0) (-1)))), (h3, .inl (cI, 3840, .inl (fun _ => 0))), (h4, .inl (cI, 5, .inl (fun _ => 0))), (h5, .inl (cI, 5, .inl (fun _ => 0))), (h6, .inl (cI, 5, .inl (fun _ => 0))), (h7, .inl (cI, 5, .inl (fun _ => 0))), (h8, .inl (cI, 7, .inl (fun _ => 0)))] := hD
        refine lv_aload_n hx hb dX10_before_40 rfl (lv_at hl 1 rfl) ?_
        refine va_get (D := D) (ci := 10) (v := .ref h3) (C := RX10) (T := TX10) (N := 34) hx hb hts iw_k_X10_before_X10 hown hK hP 0 rfl rfl 29 (by decide) (hts (.fieldLink RX10 77 "TopTurnedModel" "line" "[I") (by decide +kernel)) (fun _ h9 => h9) rfl dX10_before_41 ?_
        refine lv_iload_n hx hb dX10_before_44 rfl (lv_at hl 0 rfl) ?_
        refine lv_iconst (v := 0) hx hb dX10_before_45 (by decide) ?_
        refine kn_iastS (i := 0) (x := 0) hx hb hK hP hD hS 3 1 rfl rfl (vp_in_iff.mpr (by decide)) (by decide +kernel) dX10_before_46 (fun H locs hP hD hS => ?_)
        refine lv_iinc (v := 1) (lv' := [(2, .int 1), (0, .ref h0), (1, .int 0)]) hx hb dX10_before_47 hl (k := 0) rfl (by decide) (by decide) rfl (fun ls hl => ?_)
        refine lv_goto (tgt := 25) hx hb dX10_before_50 (by decide) ?_
        refine lv_iload_n hx hb dX10_before_25 rfl (lv_at hl 0 rfl) ?_
        refine lv_aload_n hx hb dX10_before_26 rfl (lv_at hl 1 rfl) ?_
        have hPc := hP.sub (ws' := [(h0, .inr (10, [.ref h8, .ref h1, .ref h9, .ref h10, .ref h11, .ref h4, .ref h6, .int 0, .ref h12, .ref h13, .ref h14, .ref h15, .ref h16, .ref h17, .ref h18, .int 0, .int 0, .int 0, .ref h19, .ref h20, .int 0, .int 0, .int 0, .ref h5, .ref h7, .ref h21, .ref h2, .ref h22, .ref h23, .ref h3, .int 0, .ref h24, .int 0, .ref h25])), (h1, .inl (cI, 9, .inl (upd (upd (upd (fun _ => 0) (Int32.toNatClampNeg 3) 5) (Int32.toNatClampNeg 4) 9) (Int32.toNatClampNeg 7) 1)))]) [0, 1] rfl
        have hDc := hD.sub (ws' := [(h0, .inr (10, [.ref h8, .ref h1, .ref h9, .ref h10, .ref h11, .ref h4, .ref h6, .int 0, .ref h12, .ref h13, .ref h14, .ref h15, .ref h16, .ref h17, .ref h18, .int 0, .int 0, .int 0, .ref h19, .ref h20, .int 0, .int 0, .int 0, .ref h5, .ref h7, .ref h21, .ref h2, .ref h22, .ref h23, .ref h3, .int 0, .ref h24, .int 0, .ref h25])), (h1, .inl (cI, 9, .inl (upd (upd (upd (fun _ => 0) (Int32.toNatClampNeg 3) 5) (Int32.toNatClampNeg 4) 9) (Int32.toNatClampNeg 7) 1)))]) [0, 1] (by decide) rfl
        refine va_calli (va_runV (As := []) (rest := [.int 1]) ⟨hx, hb, hml, hown, hts⟩ (k_X10_many l D cC cI cZ h0 h1 h8 h9 h10 h11 h4 h6 h12 h13 h14 h15 h16 h17 h18 h19 h20 h5 h7 h21 h2 h22 h23 h3 h24 h25 H.size ) (cwV (C := RX10) 0 hts (goodIn_app (goodIn_of _ (by decide +kernel)) gc_k_X10_before_k_X10_many) rfl rfl rfl (by decide +kernel) ⟨(Nat.le_of_ble_eq_true rfl), (Nat.le_of_ble_eq_true rfl)⟩) (kPreV hK hPc hDc (va_recv hK hPc (ci := 10) (q0 := 0) rfl rfl)) rfl rfl hl.1 rfl (lv_room (Nat.le_of_ble_eq_true rfl)) dX10_before_27 ⟨(Nat.le_of_ble_eq_true rfl), (Nat.le_of_ble_eq_true rfl)⟩) hS (fun q _ h => False.elim h) (fun q h => False.elim h) (fun r4 u t H1 locs ht hvm hw hB hz1 hk1 hS => ?_)
        have hP := hP.kept (H1 := H1) (fun k q hk => hk1 q.1 (hP k q hk).lt (fun h => h))
        generalize H1 = H at hP hS ⊢
        have hw : r4 = 1 := hw
        subst hw
        refine lv_icmp_ge (tgt := 53) hx hb dX10_before_30 (by decide) (fun _ => ?_) (fun c => absurd (by decide) c)
        refine lv_aload_n hx hb dX10_before_53 rfl (lv_at hl 1 rfl) ?_
        refine va_get (D := D) (ci := 10) (v := .ref h2) (C := RX10) (T := TX10) (N := 34) hx hb hts iw_k_X10_before_X10 hown hK hP 0 rfl rfl 26 (by decide) (hts (.fieldLink RX10 68 "TopTurnedModel" "far" "[I") (by decide +kernel)) (fun _ h9 => h9) rfl dX10_before_54 ?_
        refine lv_aload_n hx hb dX10_before_57 rfl (lv_at hl 1 rfl) ?_
        have hPc := hP.sub (ws' := [(h0, .inr (10, [.ref h8, .ref h1, .ref h9, .ref h10, .ref h11, .ref h4, .ref h6, .int 0, .ref h12, .ref h13, .ref h14, .ref h15, .ref h16, .ref h17, .ref h18, .int 0, .int 0, .int 0, .ref h19, .ref h20, .int 0, .int 0, .int 0, .ref h5, .ref h7, .ref h21, .ref h2, .ref h22, .ref h23, .ref h3, .int 0, .ref h24, .int 0, .ref h25])), (h4, .inl (cI, 5, .inl (fun _ => 0))), (h5, .inl (cI, 5, .inl (fun _ => 0))), (h6, .inl (cI, 5, .inl (fun _ => 0))), (h7, .inl (cI, 5, .inl (fun _ => 0))), (h1, .inl (cI, 9, .inl (upd (upd (upd (fun _ => 0) (Int32.toNatClampNeg 3) 5) (Int32.toNatClampNeg 4) 9) (Int32.toNatClampNeg 7) 1)))]) [0, 4, 5, 6, 7, 1] rfl
        have hDc := hD.sub (ws' := [(h0, .inr (10, [.ref h8, .ref h1, .ref h9, .ref h10, .ref h11, .ref h4, .ref h6, .int 0, .ref h12, .ref h13, .ref h14, .ref h15, .ref h16, .ref h17, .ref h18, .int 0, .int 0, .int 0, .ref h19, .ref h20, .int 0, .int 0, .int 0, .ref h5, .ref h7, .ref h21, .ref h2, .ref h22, .ref h23, .ref h3, .int 0, .ref h24, .int 0, .ref h25])), (h4, .inl (cI, 5, .inl (fun _ => 0))), (h5, .inl (cI, 5, .inl (fun _ => 0))), (h6, .inl (cI, 5, .inl (fun _ => 0))), (h7, .inl (cI, 5, .inl (fun _ => 0))), (h1, .inl (cI, 9, .inl (upd (upd (upd (fun _ => 0) (Int32.toNatClampNeg 3) 5) (Int32.toNatClampNeg 4) 9) (Int32.toNatClampNeg 7) 1)))]) [0, 4, 5, 6, 7, 1] (by decide) rfl
        have hFc := va_free (wc := [(h0, .inr (10, [.ref h8, .ref h1, .ref h9, .ref h10, .ref h11, .ref h4, .ref h6, .int 0, .ref h12, .ref h13, .ref h14, .ref h15, .ref h16, .ref h17, .ref h18, .int 0, .int 0, .int 0, .ref h19, .ref h20, .int 0, .int 0, .int 0, .ref h5, .ref h7, .ref h21, .ref h2, .ref h22, .ref h23, .ref h3, .int 0, .ref h24, .int 0, .ref h25])), (h4, .inl (cI, 5, .inl (fun _ => 0))), (h5, .inl (cI, 5, .inl (fun _ => 0))), (h6, .inl (cI, 5, .inl (fun _ => 0))), (h7, .inl (cI, 5, .inl (fun _ => 0))), (h1, .inl (cI, 9, .inl (upd (upd (upd (fun _ => 0) (Int32.toNatClampNeg 3) 5) (Int32.toNatClampNeg 4) 9) (Int32.toNatClampNeg 7) 1)))]) hD hS hA [0, 4, 5, 6, 7, 1] rfl
        refine va_calli (va_runV (As := []) (rest := [.ref h2]) ⟨hx, hb, hml, hown, hts⟩ (k_X10_now_1 l D cC cI cZ h0 h4 h5 h6 h7 h1 h8 h9 h10 h11 h12 h13 h14 h15 h16 h17 h18 h19 h20 h21 h2 h22 h23 h3 h24 h25 H.size ) (cwV (C := RX10) 0 hts (goodIn_app (goodIn_of _ (by decide +kernel)) gc_k_X10_before_k_X10_now_1) rfl rfl rfl (by decide +kernel) ⟨(Nat.le_of_ble_eq_true rfl), (Nat.le_of_ble_eq_true rfl)⟩) (kPreV hK hPc hDc (va_recv hK hPc (ci := 10) (q0 := 0) rfl rfl)) rfl rfl hl.1 rfl (lv_room (Nat.le_of_ble_eq_true rfl)) dX10_before_58 ⟨(Nat.le_of_ble_eq_true rfl), (Nat.le_of_ble_eq_true rfl)⟩) hS (fun q _ h => hFc q h) hFc (fun r5 u t H1 locs ht hvm hw hB hz1 hk1 hS => ?_)
        obtain ⟨hP1, hD1⟩ := hB
        rw [ht] at hP1
        obtain ⟨hP, hD⟩ := va_join (wr := [(h2, .inl (cI, 3840, .inl (upd (fun _ => 0) (Int32.toNatClampNeg 0) (-1)))), (h3, .inl (cI, 3840, .inl (fun _ => 0))), (h8, .inl (cI, 7, .inl (fun _ => 0)))]) (w1 := [(h1, .inl (cI, 9, .inl (upd (upd (upd (fun _ => 0) (Int32.toNatClampNeg 3) 5) (Int32.toNatClampNeg 4) 9) (Int32.toNatClampNeg 7) 1))), (h0, .inr (10, [.ref h8, .ref h1, .ref h9, .ref h10, .ref h11, .ref h4, .ref h6, .int 0, .ref h12, .ref h13, .ref h14, .ref h15, .ref h16, .ref h17, .ref h18, .int 0, .int 0, .int 0, .ref h19, .ref h20, .int 0, .int 0, .int 0, .ref h5, .ref h7, .ref h21, .ref h2, .ref h22, .ref h23, .ref h3, .int 0, .ref h24, .int 0, .ref h25])), (h4, .inl (cI, 5, .inl (fun _ => 0))), (h5, .inl (cI, 5, .inl (fun _ => 0))), (h6, .inl (cI, 5, .inl (fun _ => 0))), (h7, .inl (cI, 5, .inl (fun _ => 0)))]) hP hD [0, 4, 5, 6, 7, 1] [2, 3, 8] rfl rfl (by decide) (by decide) hk1 hFc hP1 hD1
        generalize H1 = H at hP hS ⊢
        have hP : va_P D vwCl [(h2, .inl (cI, 3840, .inl (upd (fun _ => 0) (Int32.toNatClampNeg 0) (-1)))), (h3, .inl (cI, 3840, .inl (fun _ => 0))), (h8, .inl (cI, 7, .inl (fun _ => 0))), (h1, .inl (cI, 9, .inl (upd (upd (upd (fun _ => 0) (Int32.toNatClampNeg 3) 5) (Int32.toNatClampNeg 4) 9) (Int32.toNatClampNeg 7) 1))), (h0, .inr (10, [.ref h8, .ref h1, .ref h9, .ref h10, .ref h11, .ref h4, .ref h6, .int 0, .ref h12, .ref h13, .ref h14, .ref h15, .ref h16, .ref h17, .ref h18, .int 0, .int 0, .int 0, .ref h19, .ref h20, .int 0, .int 0, .int 0, .ref h5, .ref h7, .ref h21, .ref h2, .ref h22, .ref h23, .ref h3, .int 0, .ref h24, .int 0, .ref h25])), (h4, .inl (cI, 5, .inl (fun _ => 0))), (h5, .inl (cI, 5, .inl (fun _ => 0))), (h6, .inl (cI, 5, .inl (fun _ => 0))), (h7, .inl (cI, 5, .inl (fun _ => 0)))] H := hP
        have hD : va_D A [(h2, .inl (cI, 3840, .inl (upd (fun _ => 0) (Int32.toNatClampNeg 0) (-1)))), (h3, .inl (cI, 3840, .inl (fun _ => 0))), (h8, .inl (cI, 7, .inl (fun _ => 0))), (h1, .inl (cI, 9, .inl (upd (upd (upd (fun _ => 0) (Int32.toNatClampNeg 3) 5) (Int32.toNatClampNeg 4) 9) (Int32.toNatClampNeg 7) 1))), (h0, .inr (10, [.ref h8, .ref h1, .ref h9, .ref h10, .ref h11, .ref h4, .ref h6, .int 0, .ref h12, .ref h13, .ref h14, .ref h15, .ref h16, .ref h17, .ref h18, .int 0, .int 0, .int 0, .ref h19, .ref h20, .int 0, .int 0, .int 0, .ref h5, .ref h7, .ref h21, .ref h2, .ref h22, .ref h23, .ref h3, .int 0, .ref h24, .int 0, .ref h25])), (h4, .inl (cI, 5, .inl (fun _ => 0))), (h5, .inl (cI, 5, .inl (fun _ => 0))), (h6, .inl (cI, 5, .inl (fun _ => 0))), (h7, .inl (cI, 5, .inl (fun _ => 0)))] := hD
        have hw : r5 = 0 := hw
        subst hw
        refine lv_iconst (v := 0) hx hb dX10_before_61 (by decide) ?_
        refine va_iast (i := 0) (x := 0) hx hb hK hP hD hS 0 1 rfl rfl (vp_in_iff.mpr (by decide)) dX10_before_62 (fun H locs hP hD hS => ?_)
        have hP : va_P D vwCl [(h2, .inl (cI, 3840, .inl (upd (upd (fun _ => 0) (Int32.toNatClampNeg 0) (-1)) (Int32.toNatClampNeg 0) 0))), (h3, .inl (cI, 3840, .inl (fun _ => 0))), (h8, .inl (cI, 7, .inl (fun _ => 0))), (h1, .inl (cI, 9, .inl (upd (upd (upd (fun _ => 0) (Int32.toNatClampNeg 3) 5) (Int32.toNatClampNeg 4) 9) (Int32.toNatClampNeg 7) 1))), (h0, .inr (10, [.ref h8, .ref h1, .ref h9, .ref h10, .ref h11, .ref h4, .ref h6, .int 0, .ref h12, .ref h13, .ref h14, .ref h15, .ref h16, .ref h17, .ref h18, .int 0, .int 0, .int 0, .ref h19, .ref h20, .int 0, .int 0, .int 0, .ref h5, .ref h7, .ref h21, .ref h2, .ref h22, .ref h23, .ref h3, .int 0, .ref h24, .int 0, .ref h25])), (h4, .inl (cI, 5, .inl (fun _ => 0))), (h5, .inl (cI, 5, .inl (fun _ => 0))), (h6, .inl (cI, 5, .inl (fun _ => 0))), (h7, .inl (cI, 5, .inl (fun _ => 0)))] H := hP
        have hD : va_D A [(h2, .inl (cI, 3840, .inl (upd (upd (fun _ => 0) (Int32.toNatClampNeg 0) (-1)) (Int32.toNatClampNeg 0) 0))), (h3, .inl (cI, 3840, .inl (fun _ => 0))), (h8, .inl (cI, 7, .inl (fun _ => 0))), (h1, .inl (cI, 9, .inl (upd (upd (upd (fun _ => 0) (Int32.toNatClampNeg 3) 5) (Int32.toNatClampNeg 4) 9) (Int32.toNatClampNeg 7) 1))), (h0, .inr (10, [.ref h8, .ref h1, .ref h9, .ref h10, .ref h11, .ref h4, .ref h6, .int 0, .ref h12, .ref h13, .ref h14, .ref h15, .ref h16, .ref h17, .ref h18, .int 0, .int 0, .int 0, .ref h19, .ref h20, .int 0, .int 0, .int 0, .ref h5, .ref h7, .ref h21, .ref h2, .ref h22, .ref h23, .ref h3, .int 0, .ref h24, .int 0, .ref h25])), (h4, .inl (cI, 5, .inl (fun _ => 0))), (h5, .inl (cI, 5, .inl (fun _ => 0))), (h6, .inl (cI, 5, .inl (fun _ => 0))), (h7, .inl (cI, 5, .inl (fun _ => 0)))] := hD
        refine lv_iconst (v := 0) hx hb dX10_before_63 (by decide) ?_
        refine lv_istore_n (lv' := [(2, .int 0), (0, .ref h0), (1, .int 0)]) hx hb dX10_before_64 rfl hl (by decide) rfl (fun ls hl => ?_)
        refine lv_iload_n hx hb dX10_before_65 rfl (lv_at hl 0 rfl) ?_
        refine lv_iload_n hx hb dX10_before_66 rfl (lv_at hl 2 rfl) ?_
        refine lv_icmp_ge (tgt := 229) hx hb dX10_before_67 (by decide) (fun _ => ?_) (fun c => absurd (by decide) c)
        refine lv_iconst (v := 0) hx hb dX10_before_229 (by decide) ?_
        refine lv_istore_n (lv' := [(2, .int 0), (0, .ref h0), (1, .int 0)]) hx hb dX10_before_230 rfl hl (by decide) rfl (fun ls hl => ?_)
        refine lv_iconst (v := 0) hx hb dX10_before_231 (by decide) ?_
        refine lv_istore_n (lv' := [(3, .int 0), (2, .int 0), (0, .ref h0), (1, .int 0)]) hx hb dX10_before_232 rfl hl (by decide) rfl (fun ls hl => ?_)
        refine lv_iload_n hx hb dX10_before_233 rfl (lv_at hl 0 rfl) ?_
        refine lv_aload_n hx hb dX10_before_234 rfl (lv_at hl 2 rfl) ?_
        have hPc := hP.sub (ws' := [(h0, .inr (10, [.ref h8, .ref h1, .ref h9, .ref h10, .ref h11, .ref h4, .ref h6, .int 0, .ref h12, .ref h13, .ref h14, .ref h15, .ref h16, .ref h17, .ref h18, .int 0, .int 0, .int 0, .ref h19, .ref h20, .int 0, .int 0, .int 0, .ref h5, .ref h7, .ref h21, .ref h2, .ref h22, .ref h23, .ref h3, .int 0, .ref h24, .int 0, .ref h25])), (h1, .inl (cI, 9, .inl (upd (upd (upd (fun _ => 0) (Int32.toNatClampNeg 3) 5) (Int32.toNatClampNeg 4) 9) (Int32.toNatClampNeg 7) 1)))]) [4, 3] rfl
        have hDc := hD.sub (ws' := [(h0, .inr (10, [.ref h8, .ref h1, .ref h9, .ref h10, .ref h11, .ref h4, .ref h6, .int 0, .ref h12, .ref h13, .ref h14, .ref h15, .ref h16, .ref h17, .ref h18, .int 0, .int 0, .int 0, .ref h19, .ref h20, .int 0, .int 0, .int 0, .ref h5, .ref h7, .ref h21, .ref h2, .ref h22, .ref h23, .ref h3, .int 0, .ref h24, .int 0, .ref h25])), (h1, .inl (cI, 9, .inl (upd (upd (upd (fun _ => 0) (Int32.toNatClampNeg 3) 5) (Int32.toNatClampNeg 4) 9) (Int32.toNatClampNeg 7) 1)))]) [4, 3] (by decide) rfl
        refine va_calli (va_runV (As := []) (rest := [.int 0]) ⟨hx, hb, hml, hown, hts⟩ (k_X10_many l D cC cI cZ h0 h1 h8 h9 h10 h11 h4 h6 h12 h13 h14 h15 h16 h17 h18 h19 h20 h5 h7 h21 h2 h22 h23 h3 h24 h25 H.size ) (cwV (C := RX10) 0 hts (goodIn_app (goodIn_of _ (by decide +kernel)) gc_k_X10_before_k_X10_many) rfl rfl rfl (by decide +kernel) ⟨(Nat.le_of_ble_eq_true rfl), (Nat.le_of_ble_eq_true rfl)⟩) (kPreV hK hPc hDc (va_recv hK hPc (ci := 10) (q0 := 0) rfl rfl)) rfl rfl hl.1 rfl (lv_room (Nat.le_of_ble_eq_true rfl)) dX10_before_235 ⟨(Nat.le_of_ble_eq_true rfl), (Nat.le_of_ble_eq_true rfl)⟩) hS (fun q _ h => False.elim h) (fun q h => False.elim h) (fun r6 u t H1 locs ht hvm hw hB hz1 hk1 hS => ?_)
        have hP := hP.kept (H1 := H1) (fun k q hk => hk1 q.1 (hP k q hk).lt (fun h => h))
        generalize H1 = H at hP hS ⊢
        have hw : r6 = 1 := hw
        subst hw
        refine lv_icmp_ge (tgt := 265) hx hb dX10_before_238 (by decide) (fun c => absurd c (by decide)) (fun _ => ?_)
        refine lv_iload_n hx hb dX10_before_241 rfl (lv_at hl 1 rfl) ?_
        refine lv_aload_n hx hb dX10_before_242 rfl (lv_at hl 2 rfl) ?_
        refine va_get (D := D) (ci := 10) (v := .ref h2) (C := RX10) (T := TX10) (N := 34) hx hb hts iw_k_X10_before_X10 hown hK hP 4 rfl rfl 26 (by decide) (hts (.fieldLink RX10 68 "TopTurnedModel" "far" "[I") (by decide +kernel)) (fun _ h9 => h9) rfl dX10_before_243 ?_
        refine lv_iload_n hx hb dX10_before_246 rfl (lv_at hl 0 rfl) ?_
        refine va_iald (i := 0) hx hb hK hP 0 1 rfl rfl (vp_in_iff.mpr (by decide)) dX10_before_247 ?_
        refine kt_eq (y := 0) (by decide +kernel) ?_
        refine lv_iload_n hx hb dX10_before_248 rfl (lv_at hl 3 rfl) ?_
        refine lv_icmp_ne (tgt := 256) hx hb dX10_before_249 (by decide) (fun c => absurd (by decide) c) (fun _ => ?_)
        refine lv_iconst (v := 1) hx hb dX10_before_252 (by decide) ?_
        refine lv_goto (tgt := 257) hx hb dX10_before_253 (by decide) ?_
        refine lv_iadd hx hb dX10_before_257 ?_
        refine kt_eq (y := 1) (by decide +kernel) ?_
        refine lv_istore_n (lv' := [(2, .int 1), (3, .int 0), (0, .ref h0), (1, .int 0)]) hx hb dX10_before_258 rfl hl (by decide) rfl (fun ls hl => ?_)
        refine lv_iinc (v := 1) (lv' := [(3, .int 1), (2, .int 1), (0, .ref h0), (1, .int 0)]) hx hb dX10_before_259 hl (k := 1) rfl (by decide) (by decide) rfl (fun ls hl => ?_)
        refine lv_goto (tgt := 233) hx hb dX10_before_262 (by decide) ?_
        refine lv_iload_n hx hb dX10_before_233 rfl (lv_at hl 0 rfl) ?_
        refine lv_aload_n hx hb dX10_before_234 rfl (lv_at hl 2 rfl) ?_
        have hPc := hP.sub (ws' := [(h0, .inr (10, [.ref h8, .ref h1, .ref h9, .ref h10, .ref h11, .ref h4, .ref h6, .int 0, .ref h12, .ref h13, .ref h14, .ref h15, .ref h16, .ref h17, .ref h18, .int 0, .int 0, .int 0, .ref h19, .ref h20, .int 0, .int 0, .int 0, .ref h5, .ref h7, .ref h21, .ref h2, .ref h22, .ref h23, .ref h3, .int 0, .ref h24, .int 0, .ref h25])), (h1, .inl (cI, 9, .inl (upd (upd (upd (fun _ => 0) (Int32.toNatClampNeg 3) 5) (Int32.toNatClampNeg 4) 9) (Int32.toNatClampNeg 7) 1)))]) [4, 3] rfl
        have hDc := hD.sub (ws' := [(h0, .inr (10, [.ref h8, .ref h1, .ref h9, .ref h10, .ref h11, .ref h4, .ref h6, .int 0, .ref h12, .ref h13, .ref h14, .ref h15, .ref h16, .ref h17, .ref h18, .int 0, .int 0, .int 0, .ref h19, .ref h20, .int 0, .int 0, .int 0, .ref h5, .ref h7, .ref h21, .ref h2, .ref h22, .ref h23, .ref h3, .int 0, .ref h24, .int 0, .ref h25])), (h1, .inl (cI, 9, .inl (upd (upd (upd (fun _ => 0) (Int32.toNatClampNeg 3) 5) (Int32.toNatClampNeg 4) 9) (Int32.toNatClampNeg 7) 1)))]) [4, 3] (by decide) rfl
        refine va_calli (va_runV (As := []) (rest := [.int 1]) ⟨hx, hb, hml, hown, hts⟩ (k_X10_many l D cC cI cZ h0 h1 h8 h9 h10 h11 h4 h6 h12 h13 h14 h15 h16 h17 h18 h19 h20 h5 h7 h21 h2 h22 h23 h3 h24 h25 H.size ) (cwV (C := RX10) 0 hts (goodIn_app (goodIn_of _ (by decide +kernel)) gc_k_X10_before_k_X10_many) rfl rfl rfl (by decide +kernel) ⟨(Nat.le_of_ble_eq_true rfl), (Nat.le_of_ble_eq_true rfl)⟩) (kPreV hK hPc hDc (va_recv hK hPc (ci := 10) (q0 := 0) rfl rfl)) rfl rfl hl.1 rfl (lv_room (Nat.le_of_ble_eq_true rfl)) dX10_before_235 ⟨(Nat.le_of_ble_eq_true rfl), (Nat.le_of_ble_eq_true rfl)⟩) hS (fun q _ h => False.elim h) (fun q h => False.elim h) (fun r7 u t H1 locs ht hvm hw hB hz1 hk1 hS => ?_)
        have hP := hP.kept (H1 := H1) (fun k q hk => hk1 q.1 (hP k q hk).lt (fun h => h))
        generalize H1 = H at hP hS ⊢
        have hw : r7 = 1 := hw
        subst hw
        refine lv_icmp_ge (tgt := 265) hx hb dX10_before_238 (by decide) (fun _ => ?_) (fun c => absurd (by decide) c)
        refine lv_iload_n hx hb dX10_before_265 rfl (lv_at hl 1 rfl) ?_
        refine W.widen (k := 0) (n := 0) (Nat.le_of_ble_eq_true rfl) (Nat.le_of_ble_eq_true rfl) ?_
        exact W.iret (v := 1) hx hb hr (fun t ht hW => ⟨⟨1, (), rfl, (by decide), trivial⟩, hS.F ht⟩) hS.2.2 dX10_before_266
      · refine lv_iconst (v := 0) hx hb dX10_before_23 (by decide) ?_
        refine lv_istore_n (lv' := [(2, .int 0), (0, .ref h0), (1, .int 1)]) hx hb dX10_before_24 rfl hl (by decide) rfl (fun ls hl => ?_)
        refine lv_iload_n hx hb dX10_before_25 rfl (lv_at hl 0 rfl) ?_
        refine lv_aload_n hx hb dX10_before_26 rfl (lv_at hl 1 rfl) ?_
        have hPc := hP.sub (ws' := [(h0, .inr (10, [.ref h8, .ref h1, .ref h9, .ref h10, .ref h11, .ref h4, .ref h6, .int 0, .ref h12, .ref h13, .ref h14, .ref h15, .ref h16, .ref h17, .ref h18, .int 0, .int 0, .int 0, .ref h19, .ref h20, .int 0, .int 0, .int 0, .ref h5, .ref h7, .ref h21, .ref h2, .ref h22, .ref h23, .ref h3, .int 0, .ref h24, .int 0, .ref h25])), (h1, .inl (cI, 9, .inl (upd (upd (upd (fun _ => 0) (Int32.toNatClampNeg 3) 5) (Int32.toNatClampNeg 4) 9) (Int32.toNatClampNeg 7) 1)))]) [0, 1] rfl
        have hDc := hD.sub (ws' := [(h0, .inr (10, [.ref h8, .ref h1, .ref h9, .ref h10, .ref h11, .ref h4, .ref h6, .int 0, .ref h12, .ref h13, .ref h14, .ref h15, .ref h16, .ref h17, .ref h18, .int 0, .int 0, .int 0, .ref h19, .ref h20, .int 0, .int 0, .int 0, .ref h5, .ref h7, .ref h21, .ref h2, .ref h22, .ref h23, .ref h3, .int 0, .ref h24, .int 0, .ref h25])), (h1, .inl (cI, 9, .inl (upd (upd (upd (fun _ => 0) (Int32.toNatClampNeg 3) 5) (Int32.toNatClampNeg 4) 9) (Int32.toNatClampNeg 7) 1)))]) [0, 1] (by decide) rfl
        refine va_calli (va_runV (As := []) (rest := [.int 0]) ⟨hx, hb, hml, hown, hts⟩ (k_X10_many l D cC cI cZ h0 h1 h8 h9 h10 h11 h4 h6 h12 h13 h14 h15 h16 h17 h18 h19 h20 h5 h7 h21 h2 h22 h23 h3 h24 h25 s.heap.size ) (cwV (C := RX10) 0 hts (goodIn_app (goodIn_of _ (by decide +kernel)) gc_k_X10_before_k_X10_many) rfl rfl rfl (by decide +kernel) ⟨(Nat.le_of_ble_eq_true rfl), (Nat.le_of_ble_eq_true rfl)⟩) (kPreV hK hPc hDc (va_recv hK hPc (ci := 10) (q0 := 0) rfl rfl)) rfl rfl hl.1 rfl (lv_room (Nat.le_of_ble_eq_true rfl)) dX10_before_27 ⟨(Nat.le_of_ble_eq_true rfl), (Nat.le_of_ble_eq_true rfl)⟩) hS (fun q _ h => False.elim h) (fun q h => False.elim h) (fun r8 u t H1 locs ht hvm hw hB hz1 hk1 hS => ?_)
        have hP := hP.kept (H1 := H1) (fun k q hk => hk1 q.1 (hP k q hk).lt (fun h => h))
        generalize H1 = H at hP hS ⊢
        have hw : r8 = 1 := hw
        subst hw
        refine lv_icmp_ge (tgt := 53) hx hb dX10_before_30 (by decide) (fun c => absurd c (by decide)) (fun _ => ?_)
        refine lv_aload_n hx hb dX10_before_33 rfl (lv_at hl 1 rfl) ?_
        refine va_get (D := D) (ci := 10) (v := .ref h2) (C := RX10) (T := TX10) (N := 34) hx hb hts iw_k_X10_before_X10 hown hK hP 0 rfl rfl 26 (by decide) (hts (.fieldLink RX10 68 "TopTurnedModel" "far" "[I") (by decide +kernel)) (fun _ h9 => h9) rfl dX10_before_34 ?_
        refine lv_iload_n hx hb dX10_before_37 rfl (lv_at hl 0 rfl) ?_
        refine lv_iconst (v := (-1)) hx hb dX10_before_38 (by decide) ?_
        refine va_iast (i := 0) (x := (-1)) hx hb hK hP hD hS 2 1 rfl rfl (vp_in_iff.mpr (by decide)) dX10_before_39 (fun H locs hP hD hS => ?_)
        have hP : va_P D vwCl [(h0, .inr (10, [.ref h8, .ref h1, .ref h9, .ref h10, .ref h11, .ref h4, .ref h6, .int 0, .ref h12, .ref h13, .ref h14, .ref h15, .ref h16, .ref h17, .ref h18, .int 0, .int 0, .int 0, .ref h19, .ref h20, .int 0, .int 0, .int 0, .ref h5, .ref h7, .ref h21, .ref h2, .ref h22, .ref h23, .ref h3, .int 0, .ref h24, .int 0, .ref h25])), (h1, .inl (cI, 9, .inl (upd (upd (upd (fun _ => 0) (Int32.toNatClampNeg 3) 5) (Int32.toNatClampNeg 4) 9) (Int32.toNatClampNeg 7) 1))), (h2, .inl (cI, 3840, .inl (upd (fun _ => 0) (Int32.toNatClampNeg 0) (-1)))), (h3, .inl (cI, 3840, .inl (fun _ => 0))), (h4, .inl (cI, 5, .inl (fun _ => 0))), (h5, .inl (cI, 5, .inl (fun _ => 0))), (h6, .inl (cI, 5, .inl (fun _ => 0))), (h7, .inl (cI, 5, .inl (fun _ => 0))), (h8, .inl (cI, 7, .inl (fun _ => 0)))] H := hP
        have hD : va_D A [(h0, .inr (10, [.ref h8, .ref h1, .ref h9, .ref h10, .ref h11, .ref h4, .ref h6, .int 0, .ref h12, .ref h13, .ref h14, .ref h15, .ref h16, .ref h17, .ref h18, .int 0, .int 0, .int 0, .ref h19, .ref h20, .int 0, .int 0, .int 0, .ref h5, .ref h7, .ref h21, .ref h2, .ref h22, .ref h23, .ref h3, .int 0, .ref h24, .int 0, .ref h25])), (h1, .inl (cI, 9, .inl (upd (upd (upd (fun _ => 0) (Int32.toNatClampNeg 3) 5) (Int32.toNatClampNeg 4) 9) (Int32.toNatClampNeg 7) 1))), (h2, .inl (cI, 3840, .inl (upd (fun _ => 0) (Int32.toNatClampNeg 0) (-1)))), (h3, .inl (cI, 3840, .inl (fun _ => 0))), (h4, .inl (cI, 5, .inl (fun _ => 0))), (h5, .inl (cI, 5, .inl (fun _ => 0))), (h6, .inl (cI, 5, .inl (fun _ => 0))), (h7, .inl (cI, 5, .inl (fun _ => 0))), (h8, .inl (cI, 7, .inl (fun _ => 0)))] := hD
        refine lv_aload_n hx hb dX10_before_40 rfl (lv_at hl 1 rfl) ?_
        refine va_get (D := D) (ci := 10) (v := .ref h3) (C := RX10) (T := TX10) (N := 34) hx hb hts iw_k_X10_before_X10 hown hK hP 0 rfl rfl 29 (by decide) (hts (.fieldLink RX10 77 "TopTurnedModel" "line" "[I") (by decide +kernel)) (fun _ h9 => h9) rfl dX10_before_41 ?_
        refine lv_iload_n hx hb dX10_before_44 rfl (lv_at hl 0 rfl) ?_
        refine lv_iconst (v := 0) hx hb dX10_before_45 (by decide) ?_
        refine kn_iastS (i := 0) (x := 0) hx hb hK hP hD hS 3 1 rfl rfl (vp_in_iff.mpr (by decide)) (by decide +kernel) dX10_before_46 (fun H locs hP hD hS => ?_)
        refine lv_iinc (v := 1) (lv' := [(2, .int 1), (0, .ref h0), (1, .int 1)]) hx hb dX10_before_47 hl (k := 0) rfl (by decide) (by decide) rfl (fun ls hl => ?_)
        refine lv_goto (tgt := 25) hx hb dX10_before_50 (by decide) ?_
        refine lv_iload_n hx hb dX10_before_25 rfl (lv_at hl 0 rfl) ?_
        refine lv_aload_n hx hb dX10_before_26 rfl (lv_at hl 1 rfl) ?_
        have hPc := hP.sub (ws' := [(h0, .inr (10, [.ref h8, .ref h1, .ref h9, .ref h10, .ref h11, .ref h4, .ref h6, .int 0, .ref h12, .ref h13, .ref h14, .ref h15, .ref h16, .ref h17, .ref h18, .int 0, .int 0, .int 0, .ref h19, .ref h20, .int 0, .int 0, .int 0, .ref h5, .ref h7, .ref h21, .ref h2, .ref h22, .ref h23, .ref h3, .int 0, .ref h24, .int 0, .ref h25])), (h1, .inl (cI, 9, .inl (upd (upd (upd (fun _ => 0) (Int32.toNatClampNeg 3) 5) (Int32.toNatClampNeg 4) 9) (Int32.toNatClampNeg 7) 1)))]) [0, 1] rfl
        have hDc := hD.sub (ws' := [(h0, .inr (10, [.ref h8, .ref h1, .ref h9, .ref h10, .ref h11, .ref h4, .ref h6, .int 0, .ref h12, .ref h13, .ref h14, .ref h15, .ref h16, .ref h17, .ref h18, .int 0, .int 0, .int 0, .ref h19, .ref h20, .int 0, .int 0, .int 0, .ref h5, .ref h7, .ref h21, .ref h2, .ref h22, .ref h23, .ref h3, .int 0, .ref h24, .int 0, .ref h25])), (h1, .inl (cI, 9, .inl (upd (upd (upd (fun _ => 0) (Int32.toNatClampNeg 3) 5) (Int32.toNatClampNeg 4) 9) (Int32.toNatClampNeg 7) 1)))]) [0, 1] (by decide) rfl
        refine va_calli (va_runV (As := []) (rest := [.int 1]) ⟨hx, hb, hml, hown, hts⟩ (k_X10_many l D cC cI cZ h0 h1 h8 h9 h10 h11 h4 h6 h12 h13 h14 h15 h16 h17 h18 h19 h20 h5 h7 h21 h2 h22 h23 h3 h24 h25 H.size ) (cwV (C := RX10) 0 hts (goodIn_app (goodIn_of _ (by decide +kernel)) gc_k_X10_before_k_X10_many) rfl rfl rfl (by decide +kernel) ⟨(Nat.le_of_ble_eq_true rfl), (Nat.le_of_ble_eq_true rfl)⟩) (kPreV hK hPc hDc (va_recv hK hPc (ci := 10) (q0 := 0) rfl rfl)) rfl rfl hl.1 rfl (lv_room (Nat.le_of_ble_eq_true rfl)) dX10_before_27 ⟨(Nat.le_of_ble_eq_true rfl), (Nat.le_of_ble_eq_true rfl)⟩) hS (fun q _ h => False.elim h) (fun q h => False.elim h) (fun r9 u t H1 locs ht hvm hw hB hz1 hk1 hS => ?_)
        have hP := hP.kept (H1 := H1) (fun k q hk => hk1 q.1 (hP k q hk).lt (fun h => h))
        generalize H1 = H at hP hS ⊢
        have hw : r9 = 1 := hw
        subst hw
        refine lv_icmp_ge (tgt := 53) hx hb dX10_before_30 (by decide) (fun _ => ?_) (fun c => absurd (by decide) c)
        refine lv_aload_n hx hb dX10_before_53 rfl (lv_at hl 1 rfl) ?_
        refine va_get (D := D) (ci := 10) (v := .ref h2) (C := RX10) (T := TX10) (N := 34) hx hb hts iw_k_X10_before_X10 hown hK hP 0 rfl rfl 26 (by decide) (hts (.fieldLink RX10 68 "TopTurnedModel" "far" "[I") (by decide +kernel)) (fun _ h9 => h9) rfl dX10_before_54 ?_
        refine lv_aload_n hx hb dX10_before_57 rfl (lv_at hl 1 rfl) ?_
        have hPc := hP.sub (ws' := [(h0, .inr (10, [.ref h8, .ref h1, .ref h9, .ref h10, .ref h11, .ref h4, .ref h6, .int 0, .ref h12, .ref h13, .ref h14, .ref h15, .ref h16, .ref h17, .ref h18, .int 0, .int 0, .int 0, .ref h19, .ref h20, .int 0, .int 0, .int 0, .ref h5, .ref h7, .ref h21, .ref h2, .ref h22, .ref h23, .ref h3, .int 0, .ref h24, .int 0, .ref h25])), (h4, .inl (cI, 5, .inl (fun _ => 0))), (h5, .inl (cI, 5, .inl (fun _ => 0))), (h6, .inl (cI, 5, .inl (fun _ => 0))), (h7, .inl (cI, 5, .inl (fun _ => 0))), (h1, .inl (cI, 9, .inl (upd (upd (upd (fun _ => 0) (Int32.toNatClampNeg 3) 5) (Int32.toNatClampNeg 4) 9) (Int32.toNatClampNeg 7) 1)))]) [0, 4, 5, 6, 7, 1] rfl
        have hDc := hD.sub (ws' := [(h0, .inr (10, [.ref h8, .ref h1, .ref h9, .ref h10, .ref h11, .ref h4, .ref h6, .int 0, .ref h12, .ref h13, .ref h14, .ref h15, .ref h16, .ref h17, .ref h18, .int 0, .int 0, .int 0, .ref h19, .ref h20, .int 0, .int 0, .int 0, .ref h5, .ref h7, .ref h21, .ref h2, .ref h22, .ref h23, .ref h3, .int 0, .ref h24, .int 0, .ref h25])), (h4, .inl (cI, 5, .inl (fun _ => 0))), (h5, .inl (cI, 5, .inl (fun _ => 0))), (h6, .inl (cI, 5, .inl (fun _ => 0))), (h7, .inl (cI, 5, .inl (fun _ => 0))), (h1, .inl (cI, 9, .inl (upd (upd (upd (fun _ => 0) (Int32.toNatClampNeg 3) 5) (Int32.toNatClampNeg 4) 9) (Int32.toNatClampNeg 7) 1)))]) [0, 4, 5, 6, 7, 1] (by decide) rfl
        have hFc := va_free (wc := [(h0, .inr (10, [.ref h8, .ref h1, .ref h9, .ref h10, .ref h11, .ref h4, .ref h6, .int 0, .ref h12, .ref h13, .ref h14, .ref h15, .ref h16, .ref h17, .ref h18, .int 0, .int 0, .int 0, .ref h19, .ref h20, .int 0, .int 0, .int 0, .ref h5, .ref h7, .ref h21, .ref h2, .ref h22, .ref h23, .ref h3, .int 0, .ref h24, .int 0, .ref h25])), (h4, .inl (cI, 5, .inl (fun _ => 0))), (h5, .inl (cI, 5, .inl (fun _ => 0))), (h6, .inl (cI, 5, .inl (fun _ => 0))), (h7, .inl (cI, 5, .inl (fun _ => 0))), (h1, .inl (cI, 9, .inl (upd (upd (upd (fun _ => 0) (Int32.toNatClampNeg 3) 5) (Int32.toNatClampNeg 4) 9) (Int32.toNatClampNeg 7) 1)))]) hD hS hA [0, 4, 5, 6, 7, 1] rfl
        refine va_calli (va_runV (As := []) (rest := [.ref h2]) ⟨hx, hb, hml, hown, hts⟩ (k_X10_now_1 l D cC cI cZ h0 h4 h5 h6 h7 h1 h8 h9 h10 h11 h12 h13 h14 h15 h16 h17 h18 h19 h20 h21 h2 h22 h23 h3 h24 h25 H.size ) (cwV (C := RX10) 0 hts (goodIn_app (goodIn_of _ (by decide +kernel)) gc_k_X10_before_k_X10_now_1) rfl rfl rfl (by decide +kernel) ⟨(Nat.le_of_ble_eq_true rfl), (Nat.le_of_ble_eq_true rfl)⟩) (kPreV hK hPc hDc (va_recv hK hPc (ci := 10) (q0 := 0) rfl rfl)) rfl rfl hl.1 rfl (lv_room (Nat.le_of_ble_eq_true rfl)) dX10_before_58 ⟨(Nat.le_of_ble_eq_true rfl), (Nat.le_of_ble_eq_true rfl)⟩) hS (fun q _ h => hFc q h) hFc (fun r10 u t H1 locs ht hvm hw hB hz1 hk1 hS => ?_)
        obtain ⟨hP1, hD1⟩ := hB
        rw [ht] at hP1
        obtain ⟨hP, hD⟩ := va_join (wr := [(h2, .inl (cI, 3840, .inl (upd (fun _ => 0) (Int32.toNatClampNeg 0) (-1)))), (h3, .inl (cI, 3840, .inl (fun _ => 0))), (h8, .inl (cI, 7, .inl (fun _ => 0)))]) (w1 := [(h1, .inl (cI, 9, .inl (upd (upd (upd (fun _ => 0) (Int32.toNatClampNeg 3) 5) (Int32.toNatClampNeg 4) 9) (Int32.toNatClampNeg 7) 1))), (h0, .inr (10, [.ref h8, .ref h1, .ref h9, .ref h10, .ref h11, .ref h4, .ref h6, .int 0, .ref h12, .ref h13, .ref h14, .ref h15, .ref h16, .ref h17, .ref h18, .int 0, .int 0, .int 0, .ref h19, .ref h20, .int 0, .int 0, .int 0, .ref h5, .ref h7, .ref h21, .ref h2, .ref h22, .ref h23, .ref h3, .int 0, .ref h24, .int 0, .ref h25])), (h4, .inl (cI, 5, .inl (fun _ => 0))), (h5, .inl (cI, 5, .inl (fun _ => 0))), (h6, .inl (cI, 5, .inl (fun _ => 0))), (h7, .inl (cI, 5, .inl (fun _ => 0)))]) hP hD [0, 4, 5, 6, 7, 1] [2, 3, 8] rfl rfl (by decide) (by decide) hk1 hFc hP1 hD1
        generalize H1 = H at hP hS ⊢
        have hP : va_P D vwCl [(h2, .inl (cI, 3840, .inl (upd (fun _ => 0) (Int32.toNatClampNeg 0) (-1)))), (h3, .inl (cI, 3840, .inl (fun _ => 0))), (h8, .inl (cI, 7, .inl (fun _ => 0))), (h1, .inl (cI, 9, .inl (upd (upd (upd (fun _ => 0) (Int32.toNatClampNeg 3) 5) (Int32.toNatClampNeg 4) 9) (Int32.toNatClampNeg 7) 1))), (h0, .inr (10, [.ref h8, .ref h1, .ref h9, .ref h10, .ref h11, .ref h4, .ref h6, .int 0, .ref h12, .ref h13, .ref h14, .ref h15, .ref h16, .ref h17, .ref h18, .int 0, .int 0, .int 0, .ref h19, .ref h20, .int 0, .int 0, .int 0, .ref h5, .ref h7, .ref h21, .ref h2, .ref h22, .ref h23, .ref h3, .int 0, .ref h24, .int 0, .ref h25])), (h4, .inl (cI, 5, .inl (fun _ => 0))), (h5, .inl (cI, 5, .inl (fun _ => 0))), (h6, .inl (cI, 5, .inl (fun _ => 0))), (h7, .inl (cI, 5, .inl (fun _ => 0)))] H := hP
        have hD : va_D A [(h2, .inl (cI, 3840, .inl (upd (fun _ => 0) (Int32.toNatClampNeg 0) (-1)))), (h3, .inl (cI, 3840, .inl (fun _ => 0))), (h8, .inl (cI, 7, .inl (fun _ => 0))), (h1, .inl (cI, 9, .inl (upd (upd (upd (fun _ => 0) (Int32.toNatClampNeg 3) 5) (Int32.toNatClampNeg 4) 9) (Int32.toNatClampNeg 7) 1))), (h0, .inr (10, [.ref h8, .ref h1, .ref h9, .ref h10, .ref h11, .ref h4, .ref h6, .int 0, .ref h12, .ref h13, .ref h14, .ref h15, .ref h16, .ref h17, .ref h18, .int 0, .int 0, .int 0, .ref h19, .ref h20, .int 0, .int 0, .int 0, .ref h5, .ref h7, .ref h21, .ref h2, .ref h22, .ref h23, .ref h3, .int 0, .ref h24, .int 0, .ref h25])), (h4, .inl (cI, 5, .inl (fun _ => 0))), (h5, .inl (cI, 5, .inl (fun _ => 0))), (h6, .inl (cI, 5, .inl (fun _ => 0))), (h7, .inl (cI, 5, .inl (fun _ => 0)))] := hD
        have hw : r10 = 0 := hw
        subst hw
        refine lv_iconst (v := 0) hx hb dX10_before_61 (by decide) ?_
        refine va_iast (i := 0) (x := 0) hx hb hK hP hD hS 0 1 rfl rfl (vp_in_iff.mpr (by decide)) dX10_before_62 (fun H locs hP hD hS => ?_)
        have hP : va_P D vwCl [(h2, .inl (cI, 3840, .inl (upd (upd (fun _ => 0) (Int32.toNatClampNeg 0) (-1)) (Int32.toNatClampNeg 0) 0))), (h3, .inl (cI, 3840, .inl (fun _ => 0))), (h8, .inl (cI, 7, .inl (fun _ => 0))), (h1, .inl (cI, 9, .inl (upd (upd (upd (fun _ => 0) (Int32.toNatClampNeg 3) 5) (Int32.toNatClampNeg 4) 9) (Int32.toNatClampNeg 7) 1))), (h0, .inr (10, [.ref h8, .ref h1, .ref h9, .ref h10, .ref h11, .ref h4, .ref h6, .int 0, .ref h12, .ref h13, .ref h14, .ref h15, .ref h16, .ref h17, .ref h18, .int 0, .int 0, .int 0, .ref h19, .ref h20, .int 0, .int 0, .int 0, .ref h5, .ref h7, .ref h21, .ref h2, .ref h22, .ref h23, .ref h3, .int 0, .ref h24, .int 0, .ref h25])), (h4, .inl (cI, 5, .inl (fun _ => 0))), (h5, .inl (cI, 5, .inl (fun _ => 0))), (h6, .inl (cI, 5, .inl (fun _ => 0))), (h7, .inl (cI, 5, .inl (fun _ => 0)))] H := hP
        have hD : va_D A [(h2, .inl (cI, 3840, .inl (upd (upd (fun _ => 0) (Int32.toNatClampNeg 0) (-1)) (Int32.toNatClampNeg 0) 0))), (h3, .inl (cI, 3840, .inl (fun _ => 0))), (h8, .inl (cI, 7, .inl (fun _ => 0))), (h1, .inl (cI, 9, .inl (upd (upd (upd (fun _ => 0) (Int32.toNatClampNeg 3) 5) (Int32.toNatClampNeg 4) 9) (Int32.toNatClampNeg 7) 1))), (h0, .inr (10, [.ref h8, .ref h1, .ref h9, .ref h10, .ref h11, .ref h4, .ref h6, .int 0, .ref h12, .ref h13, .ref h14, .ref h15, .ref h16, .ref h17, .ref h18, .int 0, .int 0, .int 0, .ref h19, .ref h20, .int 0, .int 0, .int 0, .ref h5, .ref h7, .ref h21, .ref h2, .ref h22, .ref h23, .ref h3, .int 0, .ref h24, .int 0, .ref h25])), (h4, .inl (cI, 5, .inl (fun _ => 0))), (h5, .inl (cI, 5, .inl (fun _ => 0))), (h6, .inl (cI, 5, .inl (fun _ => 0))), (h7, .inl (cI, 5, .inl (fun _ => 0)))] := hD
        refine lv_iconst (v := 0) hx hb dX10_before_63 (by decide) ?_
        refine lv_istore_n (lv' := [(2, .int 0), (0, .ref h0), (1, .int 1)]) hx hb dX10_before_64 rfl hl (by decide) rfl (fun ls hl => ?_)
        refine lv_iload_n hx hb dX10_before_65 rfl (lv_at hl 0 rfl) ?_
        refine lv_iload_n hx hb dX10_before_66 rfl (lv_at hl 2 rfl) ?_
        refine lv_icmp_ge (tgt := 229) hx hb dX10_before_67 (by decide) (fun c => absurd c (by decide)) (fun _ => ?_)
        refine lv_iconst (v := 0) hx hb dX10_before_70 (by decide) ?_
        refine lv_istore_n (lv' := [(3, .int 0), (2, .int 0), (0, .ref h0), (1, .int 1)]) hx hb dX10_before_71 rfl hl (by decide) rfl (fun ls hl => ?_)
        refine lv_iload_n hx hb dX10_before_72 rfl (lv_at hl 0 rfl) ?_
        refine lv_aload_n hx hb dX10_before_73 rfl (lv_at hl 2 rfl) ?_
        have hPc := hP.sub (ws' := [(h0, .inr (10, [.ref h8, .ref h1, .ref h9, .ref h10, .ref h11, .ref h4, .ref h6, .int 0, .ref h12, .ref h13, .ref h14, .ref h15, .ref h16, .ref h17, .ref h18, .int 0, .int 0, .int 0, .ref h19, .ref h20, .int 0, .int 0, .int 0, .ref h5, .ref h7, .ref h21, .ref h2, .ref h22, .ref h23, .ref h3, .int 0, .ref h24, .int 0, .ref h25])), (h1, .inl (cI, 9, .inl (upd (upd (upd (fun _ => 0) (Int32.toNatClampNeg 3) 5) (Int32.toNatClampNeg 4) 9) (Int32.toNatClampNeg 7) 1)))]) [4, 3] rfl
        have hDc := hD.sub (ws' := [(h0, .inr (10, [.ref h8, .ref h1, .ref h9, .ref h10, .ref h11, .ref h4, .ref h6, .int 0, .ref h12, .ref h13, .ref h14, .ref h15, .ref h16, .ref h17, .ref h18, .int 0, .int 0, .int 0, .ref h19, .ref h20, .int 0, .int 0, .int 0, .ref h5, .ref h7, .ref h21, .ref h2, .ref h22, .ref h23, .ref h3, .int 0, .ref h24, .int 0, .ref h25])), (h1, .inl (cI, 9, .inl (upd (upd (upd (fun _ => 0) (Int32.toNatClampNeg 3) 5) (Int32.toNatClampNeg 4) 9) (Int32.toNatClampNeg 7) 1)))]) [4, 3] (by decide) rfl
        refine va_calli (va_runV (As := []) (rest := [.int 0]) ⟨hx, hb, hml, hown, hts⟩ (k_X10_many l D cC cI cZ h0 h1 h8 h9 h10 h11 h4 h6 h12 h13 h14 h15 h16 h17 h18 h19 h20 h5 h7 h21 h2 h22 h23 h3 h24 h25 H.size ) (cwV (C := RX10) 0 hts (goodIn_app (goodIn_of _ (by decide +kernel)) gc_k_X10_before_k_X10_many) rfl rfl rfl (by decide +kernel) ⟨(Nat.le_of_ble_eq_true rfl), (Nat.le_of_ble_eq_true rfl)⟩) (kPreV hK hPc hDc (va_recv hK hPc (ci := 10) (q0 := 0) rfl rfl)) rfl rfl hl.1 rfl (lv_room (Nat.le_of_ble_eq_true rfl)) dX10_before_74 ⟨(Nat.le_of_ble_eq_true rfl), (Nat.le_of_ble_eq_true rfl)⟩) hS (fun q _ h => False.elim h) (fun q h => False.elim h) (fun r11 u t H1 locs ht hvm hw hB hz1 hk1 hS => ?_)
        have hP := hP.kept (H1 := H1) (fun k q hk => hk1 q.1 (hP k q hk).lt (fun h => h))
        generalize H1 = H at hP hS ⊢
        have hw : r11 = 1 := hw
        subst hw
        refine lv_icmp_ge (tgt := 175) hx hb dX10_before_77 (by decide) (fun c => absurd c (by decide)) (fun _ => ?_)
        refine lv_iconst (v := 0) hx hb dX10_before_80 (by decide) ?_
        refine lv_istore (lv' := [(4, .int 0), (3, .int 0), (2, .int 0), (0, .ref h0), (1, .int 1)]) hx hb dX10_before_81 hl (by decide) rfl (fun ls hl => ?_)
        refine lv_iload hx hb dX10_before_83 (lv_at hl 0 rfl) ?_
        refine lv_aload_n hx hb dX10_before_85 rfl (lv_at hl 3 rfl) ?_
        refine va_get (D := D) (ci := 10) (v := .ref h1) (C := RX10) (T := TX10) (N := 34) hx hb hts iw_k_X10_before_X10 hown hK hP 4 rfl rfl 1 (by decide) (hts (.fieldLink RX10 13 "TopTurnedModel" "told" "[I") (by decide +kernel)) (fun _ h9 => h9) rfl dX10_before_86 ?_
        refine lv_iconst (v := 0) hx hb dX10_before_89 (by decide) ?_
        refine va_iald (i := 0) hx hb hK hP 3 1 rfl rfl (vp_in_iff.mpr (by decide)) dX10_before_90 ?_
        refine kt_eq (y := 0) (by decide +kernel) ?_
        refine lv_icmp_ge (tgt := 169) hx hb dX10_before_91 (by decide) (fun _ => ?_) (fun c => absurd (by decide) c)
        refine lv_iinc (v := 1) (lv' := [(3, .int 1), (4, .int 0), (2, .int 0), (0, .ref h0), (1, .int 1)]) hx hb dX10_before_169 hl (k := 1) rfl (by decide) (by decide) rfl (fun ls hl => ?_)
        refine lv_goto (tgt := 72) hx hb dX10_before_172 (by decide) ?_
        refine lv_iload_n hx hb dX10_before_72 rfl (lv_at hl 0 rfl) ?_
        refine lv_aload_n hx hb dX10_before_73 rfl (lv_at hl 3 rfl) ?_
        have hPc := hP.sub (ws' := [(h0, .inr (10, [.ref h8, .ref h1, .ref h9, .ref h10, .ref h11, .ref h4, .ref h6, .int 0, .ref h12, .ref h13, .ref h14, .ref h15, .ref h16, .ref h17, .ref h18, .int 0, .int 0, .int 0, .ref h19, .ref h20, .int 0, .int 0, .int 0, .ref h5, .ref h7, .ref h21, .ref h2, .ref h22, .ref h23, .ref h3, .int 0, .ref h24, .int 0, .ref h25])), (h1, .inl (cI, 9, .inl (upd (upd (upd (fun _ => 0) (Int32.toNatClampNeg 3) 5) (Int32.toNatClampNeg 4) 9) (Int32.toNatClampNeg 7) 1)))]) [4, 3] rfl
        have hDc := hD.sub (ws' := [(h0, .inr (10, [.ref h8, .ref h1, .ref h9, .ref h10, .ref h11, .ref h4, .ref h6, .int 0, .ref h12, .ref h13, .ref h14, .ref h15, .ref h16, .ref h17, .ref h18, .int 0, .int 0, .int 0, .ref h19, .ref h20, .int 0, .int 0, .int 0, .ref h5, .ref h7, .ref h21, .ref h2, .ref h22, .ref h23, .ref h3, .int 0, .ref h24, .int 0, .ref h25])), (h1, .inl (cI, 9, .inl (upd (upd (upd (fun _ => 0) (Int32.toNatClampNeg 3) 5) (Int32.toNatClampNeg 4) 9) (Int32.toNatClampNeg 7) 1)))]) [4, 3] (by decide) rfl
        refine va_calli (va_runV (As := []) (rest := [.int 1]) ⟨hx, hb, hml, hown, hts⟩ (k_X10_many l D cC cI cZ h0 h1 h8 h9 h10 h11 h4 h6 h12 h13 h14 h15 h16 h17 h18 h19 h20 h5 h7 h21 h2 h22 h23 h3 h24 h25 H.size ) (cwV (C := RX10) 0 hts (goodIn_app (goodIn_of _ (by decide +kernel)) gc_k_X10_before_k_X10_many) rfl rfl rfl (by decide +kernel) ⟨(Nat.le_of_ble_eq_true rfl), (Nat.le_of_ble_eq_true rfl)⟩) (kPreV hK hPc hDc (va_recv hK hPc (ci := 10) (q0 := 0) rfl rfl)) rfl rfl hl.1 rfl (lv_room (Nat.le_of_ble_eq_true rfl)) dX10_before_74 ⟨(Nat.le_of_ble_eq_true rfl), (Nat.le_of_ble_eq_true rfl)⟩) hS (fun q _ h => False.elim h) (fun q h => False.elim h) (fun r12 u t H1 locs ht hvm hw hB hz1 hk1 hS => ?_)
        have hP := hP.kept (H1 := H1) (fun k q hk => hk1 q.1 (hP k q hk).lt (fun h => h))
        generalize H1 = H at hP hS ⊢
        have hw : r12 = 1 := hw
        subst hw
        refine lv_icmp_ge (tgt := 175) hx hb dX10_before_77 (by decide) (fun _ => ?_) (fun c => absurd (by decide) c)
        refine lv_iconst (v := 0) hx hb dX10_before_175 (by decide) ?_
        refine lv_istore_n (lv' := [(3, .int 0), (4, .int 0), (2, .int 0), (0, .ref h0), (1, .int 1)]) hx hb dX10_before_176 rfl hl (by decide) rfl (fun ls hl => ?_)
        refine lv_iload_n hx hb dX10_before_177 rfl (lv_at hl 0 rfl) ?_
        refine lv_aload_n hx hb dX10_before_178 rfl (lv_at hl 3 rfl) ?_
        have hPc := hP.sub (ws' := [(h0, .inr (10, [.ref h8, .ref h1, .ref h9, .ref h10, .ref h11, .ref h4, .ref h6, .int 0, .ref h12, .ref h13, .ref h14, .ref h15, .ref h16, .ref h17, .ref h18, .int 0, .int 0, .int 0, .ref h19, .ref h20, .int 0, .int 0, .int 0, .ref h5, .ref h7, .ref h21, .ref h2, .ref h22, .ref h23, .ref h3, .int 0, .ref h24, .int 0, .ref h25])), (h1, .inl (cI, 9, .inl (upd (upd (upd (fun _ => 0) (Int32.toNatClampNeg 3) 5) (Int32.toNatClampNeg 4) 9) (Int32.toNatClampNeg 7) 1)))]) [4, 3] rfl
        have hDc := hD.sub (ws' := [(h0, .inr (10, [.ref h8, .ref h1, .ref h9, .ref h10, .ref h11, .ref h4, .ref h6, .int 0, .ref h12, .ref h13, .ref h14, .ref h15, .ref h16, .ref h17, .ref h18, .int 0, .int 0, .int 0, .ref h19, .ref h20, .int 0, .int 0, .int 0, .ref h5, .ref h7, .ref h21, .ref h2, .ref h22, .ref h23, .ref h3, .int 0, .ref h24, .int 0, .ref h25])), (h1, .inl (cI, 9, .inl (upd (upd (upd (fun _ => 0) (Int32.toNatClampNeg 3) 5) (Int32.toNatClampNeg 4) 9) (Int32.toNatClampNeg 7) 1)))]) [4, 3] (by decide) rfl
        refine va_calli (va_runV (As := []) (rest := [.int 0]) ⟨hx, hb, hml, hown, hts⟩ (k_X10_many l D cC cI cZ h0 h1 h8 h9 h10 h11 h4 h6 h12 h13 h14 h15 h16 h17 h18 h19 h20 h5 h7 h21 h2 h22 h23 h3 h24 h25 H.size ) (cwV (C := RX10) 0 hts (goodIn_app (goodIn_of _ (by decide +kernel)) gc_k_X10_before_k_X10_many) rfl rfl rfl (by decide +kernel) ⟨(Nat.le_of_ble_eq_true rfl), (Nat.le_of_ble_eq_true rfl)⟩) (kPreV hK hPc hDc (va_recv hK hPc (ci := 10) (q0 := 0) rfl rfl)) rfl rfl hl.1 rfl (lv_room (Nat.le_of_ble_eq_true rfl)) dX10_before_179 ⟨(Nat.le_of_ble_eq_true rfl), (Nat.le_of_ble_eq_true rfl)⟩) hS (fun q _ h => False.elim h) (fun q h => False.elim h) (fun r13 u t H1 locs ht hvm hw hB hz1 hk1 hS => ?_)
        have hP := hP.kept (H1 := H1) (fun k q hk => hk1 q.1 (hP k q hk).lt (fun h => h))
        generalize H1 = H at hP hS ⊢
        have hw : r13 = 1 := hw
        subst hw
        refine lv_icmp_ge (tgt := 223) hx hb dX10_before_182 (by decide) (fun c => absurd c (by decide)) (fun _ => ?_)
        refine lv_aload_n hx hb dX10_before_185 rfl (lv_at hl 3 rfl) ?_
        refine va_get (D := D) (ci := 10) (v := .ref h2) (C := RX10) (T := TX10) (N := 34) hx hb hts iw_k_X10_before_X10 hown hK hP 4 rfl rfl 26 (by decide) (hts (.fieldLink RX10 68 "TopTurnedModel" "far" "[I") (by decide +kernel)) (fun _ h9 => h9) rfl dX10_before_186 ?_
        refine lv_iload_n hx hb dX10_before_189 rfl (lv_at hl 0 rfl) ?_
        refine lv_aload_n hx hb dX10_before_190 rfl (lv_at hl 3 rfl) ?_
        refine va_get (D := D) (ci := 10) (v := .ref h3) (C := RX10) (T := TX10) (N := 34) hx hb hts iw_k_X10_before_X10 hown hK hP 4 rfl rfl 29 (by decide) (hts (.fieldLink RX10 77 "TopTurnedModel" "line" "[I") (by decide +kernel)) (fun _ h9 => h9) rfl dX10_before_191 ?_
        refine lv_iload_n hx hb dX10_before_194 rfl (lv_at hl 0 rfl) ?_
        refine va_iald (i := 0) hx hb hK hP 1 1 rfl rfl (vp_in_iff.mpr (by decide)) dX10_before_195 ?_
        refine kt_eq (y := 0) (by decide +kernel) ?_
        refine lv_iload_n hx hb dX10_before_196 rfl (lv_at hl 2 rfl) ?_
        refine lv_iconst (v := 1) hx hb dX10_before_197 (by decide) ?_
        refine lv_iadd hx hb dX10_before_198 ?_
        refine kt_eq (y := 1) (by decide +kernel) ?_
        refine lv_icmp_ne (tgt := 208) hx hb dX10_before_199 (by decide) (fun _ => ?_) (fun c => absurd c (by decide))
        refine lv_iconst (v := (-1)) hx hb dX10_before_208 (by decide) ?_
        refine va_iast (i := 0) (x := (-1)) hx hb hK hP hD hS 0 1 rfl rfl (vp_in_iff.mpr (by decide)) dX10_before_209 (fun H locs hP hD hS => ?_)
        have hP : va_P D vwCl [(h2, .inl (cI, 3840, .inl (upd (upd (upd (fun _ => 0) (Int32.toNatClampNeg 0) (-1)) (Int32.toNatClampNeg 0) 0) (Int32.toNatClampNeg 0) (-1)))), (h3, .inl (cI, 3840, .inl (fun _ => 0))), (h8, .inl (cI, 7, .inl (fun _ => 0))), (h1, .inl (cI, 9, .inl (upd (upd (upd (fun _ => 0) (Int32.toNatClampNeg 3) 5) (Int32.toNatClampNeg 4) 9) (Int32.toNatClampNeg 7) 1))), (h0, .inr (10, [.ref h8, .ref h1, .ref h9, .ref h10, .ref h11, .ref h4, .ref h6, .int 0, .ref h12, .ref h13, .ref h14, .ref h15, .ref h16, .ref h17, .ref h18, .int 0, .int 0, .int 0, .ref h19, .ref h20, .int 0, .int 0, .int 0, .ref h5, .ref h7, .ref h21, .ref h2, .ref h22, .ref h23, .ref h3, .int 0, .ref h24, .int 0, .ref h25])), (h4, .inl (cI, 5, .inl (fun _ => 0))), (h5, .inl (cI, 5, .inl (fun _ => 0))), (h6, .inl (cI, 5, .inl (fun _ => 0))), (h7, .inl (cI, 5, .inl (fun _ => 0)))] H := hP
        have hD : va_D A [(h2, .inl (cI, 3840, .inl (upd (upd (upd (fun _ => 0) (Int32.toNatClampNeg 0) (-1)) (Int32.toNatClampNeg 0) 0) (Int32.toNatClampNeg 0) (-1)))), (h3, .inl (cI, 3840, .inl (fun _ => 0))), (h8, .inl (cI, 7, .inl (fun _ => 0))), (h1, .inl (cI, 9, .inl (upd (upd (upd (fun _ => 0) (Int32.toNatClampNeg 3) 5) (Int32.toNatClampNeg 4) 9) (Int32.toNatClampNeg 7) 1))), (h0, .inr (10, [.ref h8, .ref h1, .ref h9, .ref h10, .ref h11, .ref h4, .ref h6, .int 0, .ref h12, .ref h13, .ref h14, .ref h15, .ref h16, .ref h17, .ref h18, .int 0, .int 0, .int 0, .ref h19, .ref h20, .int 0, .int 0, .int 0, .ref h5, .ref h7, .ref h21, .ref h2, .ref h22, .ref h23, .ref h3, .int 0, .ref h24, .int 0, .ref h25])), (h4, .inl (cI, 5, .inl (fun _ => 0))), (h5, .inl (cI, 5, .inl (fun _ => 0))), (h6, .inl (cI, 5, .inl (fun _ => 0))), (h7, .inl (cI, 5, .inl (fun _ => 0)))] := hD
        refine lv_aload_n hx hb dX10_before_210 rfl (lv_at hl 3 rfl) ?_
        refine va_get (D := D) (ci := 10) (v := .ref h3) (C := RX10) (T := TX10) (N := 34) hx hb hts iw_k_X10_before_X10 hown hK hP 4 rfl rfl 29 (by decide) (hts (.fieldLink RX10 77 "TopTurnedModel" "line" "[I") (by decide +kernel)) (fun _ h9 => h9) rfl dX10_before_211 ?_
        refine lv_iload_n hx hb dX10_before_214 rfl (lv_at hl 0 rfl) ?_
        refine lv_iconst (v := 0) hx hb dX10_before_215 (by decide) ?_
        refine kn_iastS (i := 0) (x := 0) hx hb hK hP hD hS 1 1 rfl rfl (vp_in_iff.mpr (by decide)) (by decide +kernel) dX10_before_216 (fun H locs hP hD hS => ?_)
        refine lv_iinc (v := 1) (lv' := [(3, .int 1), (4, .int 0), (2, .int 0), (0, .ref h0), (1, .int 1)]) hx hb dX10_before_217 hl (k := 0) rfl (by decide) (by decide) rfl (fun ls hl => ?_)
        refine lv_goto (tgt := 177) hx hb dX10_before_220 (by decide) ?_
        refine lv_iload_n hx hb dX10_before_177 rfl (lv_at hl 0 rfl) ?_
        refine lv_aload_n hx hb dX10_before_178 rfl (lv_at hl 3 rfl) ?_
        have hPc := hP.sub (ws' := [(h0, .inr (10, [.ref h8, .ref h1, .ref h9, .ref h10, .ref h11, .ref h4, .ref h6, .int 0, .ref h12, .ref h13, .ref h14, .ref h15, .ref h16, .ref h17, .ref h18, .int 0, .int 0, .int 0, .ref h19, .ref h20, .int 0, .int 0, .int 0, .ref h5, .ref h7, .ref h21, .ref h2, .ref h22, .ref h23, .ref h3, .int 0, .ref h24, .int 0, .ref h25])), (h1, .inl (cI, 9, .inl (upd (upd (upd (fun _ => 0) (Int32.toNatClampNeg 3) 5) (Int32.toNatClampNeg 4) 9) (Int32.toNatClampNeg 7) 1)))]) [4, 3] rfl
        have hDc := hD.sub (ws' := [(h0, .inr (10, [.ref h8, .ref h1, .ref h9, .ref h10, .ref h11, .ref h4, .ref h6, .int 0, .ref h12, .ref h13, .ref h14, .ref h15, .ref h16, .ref h17, .ref h18, .int 0, .int 0, .int 0, .ref h19, .ref h20, .int 0, .int 0, .int 0, .ref h5, .ref h7, .ref h21, .ref h2, .ref h22, .ref h23, .ref h3, .int 0, .ref h24, .int 0, .ref h25])), (h1, .inl (cI, 9, .inl (upd (upd (upd (fun _ => 0) (Int32.toNatClampNeg 3) 5) (Int32.toNatClampNeg 4) 9) (Int32.toNatClampNeg 7) 1)))]) [4, 3] (by decide) rfl
        refine va_calli (va_runV (As := []) (rest := [.int 1]) ⟨hx, hb, hml, hown, hts⟩ (k_X10_many l D cC cI cZ h0 h1 h8 h9 h10 h11 h4 h6 h12 h13 h14 h15 h16 h17 h18 h19 h20 h5 h7 h21 h2 h22 h23 h3 h24 h25 H.size ) (cwV (C := RX10) 0 hts (goodIn_app (goodIn_of _ (by decide +kernel)) gc_k_X10_before_k_X10_many) rfl rfl rfl (by decide +kernel) ⟨(Nat.le_of_ble_eq_true rfl), (Nat.le_of_ble_eq_true rfl)⟩) (kPreV hK hPc hDc (va_recv hK hPc (ci := 10) (q0 := 0) rfl rfl)) rfl rfl hl.1 rfl (lv_room (Nat.le_of_ble_eq_true rfl)) dX10_before_179 ⟨(Nat.le_of_ble_eq_true rfl), (Nat.le_of_ble_eq_true rfl)⟩) hS (fun q _ h => False.elim h) (fun q h => False.elim h) (fun r14 u t H1 locs ht hvm hw hB hz1 hk1 hS => ?_)
        have hP := hP.kept (H1 := H1) (fun k q hk => hk1 q.1 (hP k q hk).lt (fun h => h))
        generalize H1 = H at hP hS ⊢
        have hw : r14 = 1 := hw
        subst hw
        refine lv_icmp_ge (tgt := 223) hx hb dX10_before_182 (by decide) (fun _ => ?_) (fun c => absurd (by decide) c)
        refine lv_iinc (v := 1) (lv' := [(2, .int 1), (3, .int 1), (4, .int 0), (0, .ref h0), (1, .int 1)]) hx hb dX10_before_223 hl (k := 2) rfl (by decide) (by decide) rfl (fun ls hl => ?_)
        refine lv_goto (tgt := 65) hx hb dX10_before_226 (by decide) ?_
        refine lv_iload_n hx hb dX10_before_65 rfl (lv_at hl 0 rfl) ?_
        refine lv_iload_n hx hb dX10_before_66 rfl (lv_at hl 4 rfl) ?_
        refine lv_icmp_ge (tgt := 229) hx hb dX10_before_67 (by decide) (fun _ => ?_) (fun c => absurd (by decide) c)
        refine lv_iconst (v := 0) hx hb dX10_before_229 (by decide) ?_
        refine lv_istore_n (lv' := [(2, .int 0), (3, .int 1), (4, .int 0), (0, .ref h0), (1, .int 1)]) hx hb dX10_before_230 rfl hl (by decide) rfl (fun ls hl => ?_)
        refine lv_iconst (v := 0) hx hb dX10_before_231 (by decide) ?_
        refine lv_istore_n (lv' := [(3, .int 0), (2, .int 0), (4, .int 0), (0, .ref h0), (1, .int 1)]) hx hb dX10_before_232 rfl hl (by decide) rfl (fun ls hl => ?_)
        refine lv_iload_n hx hb dX10_before_233 rfl (lv_at hl 0 rfl) ?_
        refine lv_aload_n hx hb dX10_before_234 rfl (lv_at hl 3 rfl) ?_
        have hPc := hP.sub (ws' := [(h0, .inr (10, [.ref h8, .ref h1, .ref h9, .ref h10, .ref h11, .ref h4, .ref h6, .int 0, .ref h12, .ref h13, .ref h14, .ref h15, .ref h16, .ref h17, .ref h18, .int 0, .int 0, .int 0, .ref h19, .ref h20, .int 0, .int 0, .int 0, .ref h5, .ref h7, .ref h21, .ref h2, .ref h22, .ref h23, .ref h3, .int 0, .ref h24, .int 0, .ref h25])), (h1, .inl (cI, 9, .inl (upd (upd (upd (fun _ => 0) (Int32.toNatClampNeg 3) 5) (Int32.toNatClampNeg 4) 9) (Int32.toNatClampNeg 7) 1)))]) [4, 3] rfl
        have hDc := hD.sub (ws' := [(h0, .inr (10, [.ref h8, .ref h1, .ref h9, .ref h10, .ref h11, .ref h4, .ref h6, .int 0, .ref h12, .ref h13, .ref h14, .ref h15, .ref h16, .ref h17, .ref h18, .int 0, .int 0, .int 0, .ref h19, .ref h20, .int 0, .int 0, .int 0, .ref h5, .ref h7, .ref h21, .ref h2, .ref h22, .ref h23, .ref h3, .int 0, .ref h24, .int 0, .ref h25])), (h1, .inl (cI, 9, .inl (upd (upd (upd (fun _ => 0) (Int32.toNatClampNeg 3) 5) (Int32.toNatClampNeg 4) 9) (Int32.toNatClampNeg 7) 1)))]) [4, 3] (by decide) rfl
        refine va_calli (va_runV (As := []) (rest := [.int 0]) ⟨hx, hb, hml, hown, hts⟩ (k_X10_many l D cC cI cZ h0 h1 h8 h9 h10 h11 h4 h6 h12 h13 h14 h15 h16 h17 h18 h19 h20 h5 h7 h21 h2 h22 h23 h3 h24 h25 H.size ) (cwV (C := RX10) 0 hts (goodIn_app (goodIn_of _ (by decide +kernel)) gc_k_X10_before_k_X10_many) rfl rfl rfl (by decide +kernel) ⟨(Nat.le_of_ble_eq_true rfl), (Nat.le_of_ble_eq_true rfl)⟩) (kPreV hK hPc hDc (va_recv hK hPc (ci := 10) (q0 := 0) rfl rfl)) rfl rfl hl.1 rfl (lv_room (Nat.le_of_ble_eq_true rfl)) dX10_before_235 ⟨(Nat.le_of_ble_eq_true rfl), (Nat.le_of_ble_eq_true rfl)⟩) hS (fun q _ h => False.elim h) (fun q h => False.elim h) (fun r15 u t H1 locs ht hvm hw hB hz1 hk1 hS => ?_)
        have hP := hP.kept (H1 := H1) (fun k q hk => hk1 q.1 (hP k q hk).lt (fun h => h))
        generalize H1 = H at hP hS ⊢
        have hw : r15 = 1 := hw
        subst hw
        refine lv_icmp_ge (tgt := 265) hx hb dX10_before_238 (by decide) (fun c => absurd c (by decide)) (fun _ => ?_)
        refine lv_iload_n hx hb dX10_before_241 rfl (lv_at hl 1 rfl) ?_
        refine lv_aload_n hx hb dX10_before_242 rfl (lv_at hl 3 rfl) ?_
        refine va_get (D := D) (ci := 10) (v := .ref h2) (C := RX10) (T := TX10) (N := 34) hx hb hts iw_k_X10_before_X10 hown hK hP 4 rfl rfl 26 (by decide) (hts (.fieldLink RX10 68 "TopTurnedModel" "far" "[I") (by decide +kernel)) (fun _ h9 => h9) rfl dX10_before_243 ?_
        refine lv_iload_n hx hb dX10_before_246 rfl (lv_at hl 0 rfl) ?_
        refine va_iald (i := 0) hx hb hK hP 0 1 rfl rfl (vp_in_iff.mpr (by decide)) dX10_before_247 ?_
        refine kt_eq (y := (-1)) (by decide +kernel) ?_
        refine lv_iload_n hx hb dX10_before_248 rfl (lv_at hl 4 rfl) ?_
        refine lv_icmp_ne (tgt := 256) hx hb dX10_before_249 (by decide) (fun _ => ?_) (fun c => absurd c (by decide))
        refine lv_iconst (v := 0) hx hb dX10_before_256 (by decide) ?_
        refine lv_iadd hx hb dX10_before_257 ?_
        refine kt_eq (y := 0) (by decide +kernel) ?_
        refine lv_istore_n (lv' := [(2, .int 0), (3, .int 0), (4, .int 0), (0, .ref h0), (1, .int 1)]) hx hb dX10_before_258 rfl hl (by decide) rfl (fun ls hl => ?_)
        refine lv_iinc (v := 1) (lv' := [(3, .int 1), (2, .int 0), (4, .int 0), (0, .ref h0), (1, .int 1)]) hx hb dX10_before_259 hl (k := 1) rfl (by decide) (by decide) rfl (fun ls hl => ?_)
        refine lv_goto (tgt := 233) hx hb dX10_before_262 (by decide) ?_
        refine lv_iload_n hx hb dX10_before_233 rfl (lv_at hl 0 rfl) ?_
        refine lv_aload_n hx hb dX10_before_234 rfl (lv_at hl 3 rfl) ?_
        have hPc := hP.sub (ws' := [(h0, .inr (10, [.ref h8, .ref h1, .ref h9, .ref h10, .ref h11, .ref h4, .ref h6, .int 0, .ref h12, .ref h13, .ref h14, .ref h15, .ref h16, .ref h17, .ref h18, .int 0, .int 0, .int 0, .ref h19, .ref h20, .int 0, .int 0, .int 0, .ref h5, .ref h7, .ref h21, .ref h2, .ref h22, .ref h23, .ref h3, .int 0, .ref h24, .int 0, .ref h25])), (h1, .inl (cI, 9, .inl (upd (upd (upd (fun _ => 0) (Int32.toNatClampNeg 3) 5) (Int32.toNatClampNeg 4) 9) (Int32.toNatClampNeg 7) 1)))]) [4, 3] rfl
        have hDc := hD.sub (ws' := [(h0, .inr (10, [.ref h8, .ref h1, .ref h9, .ref h10, .ref h11, .ref h4, .ref h6, .int 0, .ref h12, .ref h13, .ref h14, .ref h15, .ref h16, .ref h17, .ref h18, .int 0, .int 0, .int 0, .ref h19, .ref h20, .int 0, .int 0, .int 0, .ref h5, .ref h7, .ref h21, .ref h2, .ref h22, .ref h23, .ref h3, .int 0, .ref h24, .int 0, .ref h25])), (h1, .inl (cI, 9, .inl (upd (upd (upd (fun _ => 0) (Int32.toNatClampNeg 3) 5) (Int32.toNatClampNeg 4) 9) (Int32.toNatClampNeg 7) 1)))]) [4, 3] (by decide) rfl
        refine va_calli (va_runV (As := []) (rest := [.int 1]) ⟨hx, hb, hml, hown, hts⟩ (k_X10_many l D cC cI cZ h0 h1 h8 h9 h10 h11 h4 h6 h12 h13 h14 h15 h16 h17 h18 h19 h20 h5 h7 h21 h2 h22 h23 h3 h24 h25 H.size ) (cwV (C := RX10) 0 hts (goodIn_app (goodIn_of _ (by decide +kernel)) gc_k_X10_before_k_X10_many) rfl rfl rfl (by decide +kernel) ⟨(Nat.le_of_ble_eq_true rfl), (Nat.le_of_ble_eq_true rfl)⟩) (kPreV hK hPc hDc (va_recv hK hPc (ci := 10) (q0 := 0) rfl rfl)) rfl rfl hl.1 rfl (lv_room (Nat.le_of_ble_eq_true rfl)) dX10_before_235 ⟨(Nat.le_of_ble_eq_true rfl), (Nat.le_of_ble_eq_true rfl)⟩) hS (fun q _ h => False.elim h) (fun q h => False.elim h) (fun r16 u t H1 locs ht hvm hw hB hz1 hk1 hS => ?_)
        have hP := hP.kept (H1 := H1) (fun k q hk => hk1 q.1 (hP k q hk).lt (fun h => h))
        generalize H1 = H at hP hS ⊢
        have hw : r16 = 1 := hw
        subst hw
        refine lv_icmp_ge (tgt := 265) hx hb dX10_before_238 (by decide) (fun _ => ?_) (fun c => absurd (by decide) c)
        refine lv_iload_n hx hb dX10_before_265 rfl (lv_at hl 1 rfl) ?_
        refine W.widen (k := 0) (n := 0) (Nat.le_of_ble_eq_true rfl) (Nat.le_of_ble_eq_true rfl) ?_
        exact W.iret (v := 0) hx hb hr (fun t ht hW => ⟨⟨0, (), rfl, (by decide), trivial⟩, hS.F ht⟩) hS.2.2 dX10_before_266
      · refine lv_iconst (v := 0) hx hb dX10_before_23 (by decide) ?_
        refine lv_istore_n (lv' := [(2, .int 0), (0, .ref h0), (1, .int 2)]) hx hb dX10_before_24 rfl hl (by decide) rfl (fun ls hl => ?_)
        refine lv_iload_n hx hb dX10_before_25 rfl (lv_at hl 0 rfl) ?_
        refine lv_aload_n hx hb dX10_before_26 rfl (lv_at hl 1 rfl) ?_
        have hPc := hP.sub (ws' := [(h0, .inr (10, [.ref h8, .ref h1, .ref h9, .ref h10, .ref h11, .ref h4, .ref h6, .int 0, .ref h12, .ref h13, .ref h14, .ref h15, .ref h16, .ref h17, .ref h18, .int 0, .int 0, .int 0, .ref h19, .ref h20, .int 0, .int 0, .int 0, .ref h5, .ref h7, .ref h21, .ref h2, .ref h22, .ref h23, .ref h3, .int 0, .ref h24, .int 0, .ref h25])), (h1, .inl (cI, 9, .inl (upd (upd (upd (fun _ => 0) (Int32.toNatClampNeg 3) 5) (Int32.toNatClampNeg 4) 9) (Int32.toNatClampNeg 7) 1)))]) [0, 1] rfl
        have hDc := hD.sub (ws' := [(h0, .inr (10, [.ref h8, .ref h1, .ref h9, .ref h10, .ref h11, .ref h4, .ref h6, .int 0, .ref h12, .ref h13, .ref h14, .ref h15, .ref h16, .ref h17, .ref h18, .int 0, .int 0, .int 0, .ref h19, .ref h20, .int 0, .int 0, .int 0, .ref h5, .ref h7, .ref h21, .ref h2, .ref h22, .ref h23, .ref h3, .int 0, .ref h24, .int 0, .ref h25])), (h1, .inl (cI, 9, .inl (upd (upd (upd (fun _ => 0) (Int32.toNatClampNeg 3) 5) (Int32.toNatClampNeg 4) 9) (Int32.toNatClampNeg 7) 1)))]) [0, 1] (by decide) rfl
        refine va_calli (va_runV (As := []) (rest := [.int 0]) ⟨hx, hb, hml, hown, hts⟩ (k_X10_many l D cC cI cZ h0 h1 h8 h9 h10 h11 h4 h6 h12 h13 h14 h15 h16 h17 h18 h19 h20 h5 h7 h21 h2 h22 h23 h3 h24 h25 s.heap.size ) (cwV (C := RX10) 0 hts (goodIn_app (goodIn_of _ (by decide +kernel)) gc_k_X10_before_k_X10_many) rfl rfl rfl (by decide +kernel) ⟨(Nat.le_of_ble_eq_true rfl), (Nat.le_of_ble_eq_true rfl)⟩) (kPreV hK hPc hDc (va_recv hK hPc (ci := 10) (q0 := 0) rfl rfl)) rfl rfl hl.1 rfl (lv_room (Nat.le_of_ble_eq_true rfl)) dX10_before_27 ⟨(Nat.le_of_ble_eq_true rfl), (Nat.le_of_ble_eq_true rfl)⟩) hS (fun q _ h => False.elim h) (fun q h => False.elim h) (fun r17 u t H1 locs ht hvm hw hB hz1 hk1 hS => ?_)
        have hP := hP.kept (H1 := H1) (fun k q hk => hk1 q.1 (hP k q hk).lt (fun h => h))
        generalize H1 = H at hP hS ⊢
        have hw : r17 = 1 := hw
        subst hw
        refine lv_icmp_ge (tgt := 53) hx hb dX10_before_30 (by decide) (fun c => absurd c (by decide)) (fun _ => ?_)
        refine lv_aload_n hx hb dX10_before_33 rfl (lv_at hl 1 rfl) ?_
        refine va_get (D := D) (ci := 10) (v := .ref h2) (C := RX10) (T := TX10) (N := 34) hx hb hts iw_k_X10_before_X10 hown hK hP 0 rfl rfl 26 (by decide) (hts (.fieldLink RX10 68 "TopTurnedModel" "far" "[I") (by decide +kernel)) (fun _ h9 => h9) rfl dX10_before_34 ?_
        refine lv_iload_n hx hb dX10_before_37 rfl (lv_at hl 0 rfl) ?_
        refine lv_iconst (v := (-1)) hx hb dX10_before_38 (by decide) ?_
        refine va_iast (i := 0) (x := (-1)) hx hb hK hP hD hS 2 1 rfl rfl (vp_in_iff.mpr (by decide)) dX10_before_39 (fun H locs hP hD hS => ?_)
        have hP : va_P D vwCl [(h0, .inr (10, [.ref h8, .ref h1, .ref h9, .ref h10, .ref h11, .ref h4, .ref h6, .int 0, .ref h12, .ref h13, .ref h14, .ref h15, .ref h16, .ref h17, .ref h18, .int 0, .int 0, .int 0, .ref h19, .ref h20, .int 0, .int 0, .int 0, .ref h5, .ref h7, .ref h21, .ref h2, .ref h22, .ref h23, .ref h3, .int 0, .ref h24, .int 0, .ref h25])), (h1, .inl (cI, 9, .inl (upd (upd (upd (fun _ => 0) (Int32.toNatClampNeg 3) 5) (Int32.toNatClampNeg 4) 9) (Int32.toNatClampNeg 7) 1))), (h2, .inl (cI, 3840, .inl (upd (fun _ => 0) (Int32.toNatClampNeg 0) (-1)))), (h3, .inl (cI, 3840, .inl (fun _ => 0))), (h4, .inl (cI, 5, .inl (fun _ => 0))), (h5, .inl (cI, 5, .inl (fun _ => 0))), (h6, .inl (cI, 5, .inl (fun _ => 0))), (h7, .inl (cI, 5, .inl (fun _ => 0))), (h8, .inl (cI, 7, .inl (fun _ => 0)))] H := hP
        have hD : va_D A [(h0, .inr (10, [.ref h8, .ref h1, .ref h9, .ref h10, .ref h11, .ref h4, .ref h6, .int 0, .ref h12, .ref h13, .ref h14, .ref h15, .ref h16, .ref h17, .ref h18, .int 0, .int 0, .int 0, .ref h19, .ref h20, .int 0, .int 0, .int 0, .ref h5, .ref h7, .ref h21, .ref h2, .ref h22, .ref h23, .ref h3, .int 0, .ref h24, .int 0, .ref h25])), (h1, .inl (cI, 9, .inl (upd (upd (upd (fun _ => 0) (Int32.toNatClampNeg 3) 5) (Int32.toNatClampNeg 4) 9) (Int32.toNatClampNeg 7) 1))), (h2, .inl (cI, 3840, .inl (upd (fun _ => 0) (Int32.toNatClampNeg 0) (-1)))), (h3, .inl (cI, 3840, .inl (fun _ => 0))), (h4, .inl (cI, 5, .inl (fun _ => 0))), (h5, .inl (cI, 5, .inl (fun _ => 0))), (h6, .inl (cI, 5, .inl (fun _ => 0))), (h7, .inl (cI, 5, .inl (fun _ => 0))), (h8, .inl (cI, 7, .inl (fun _ => 0)))] := hD
        refine lv_aload_n hx hb dX10_before_40 rfl (lv_at hl 1 rfl) ?_
        refine va_get (D := D) (ci := 10) (v := .ref h3) (C := RX10) (T := TX10) (N := 34) hx hb hts iw_k_X10_before_X10 hown hK hP 0 rfl rfl 29 (by decide) (hts (.fieldLink RX10 77 "TopTurnedModel" "line" "[I") (by decide +kernel)) (fun _ h9 => h9) rfl dX10_before_41 ?_
        refine lv_iload_n hx hb dX10_before_44 rfl (lv_at hl 0 rfl) ?_
        refine lv_iconst (v := 0) hx hb dX10_before_45 (by decide) ?_
        refine kn_iastS (i := 0) (x := 0) hx hb hK hP hD hS 3 1 rfl rfl (vp_in_iff.mpr (by decide)) (by decide +kernel) dX10_before_46 (fun H locs hP hD hS => ?_)
        refine lv_iinc (v := 1) (lv' := [(2, .int 1), (0, .ref h0), (1, .int 2)]) hx hb dX10_before_47 hl (k := 0) rfl (by decide) (by decide) rfl (fun ls hl => ?_)
        refine lv_goto (tgt := 25) hx hb dX10_before_50 (by decide) ?_
        refine lv_iload_n hx hb dX10_before_25 rfl (lv_at hl 0 rfl) ?_
        refine lv_aload_n hx hb dX10_before_26 rfl (lv_at hl 1 rfl) ?_
        have hPc := hP.sub (ws' := [(h0, .inr (10, [.ref h8, .ref h1, .ref h9, .ref h10, .ref h11, .ref h4, .ref h6, .int 0, .ref h12, .ref h13, .ref h14, .ref h15, .ref h16, .ref h17, .ref h18, .int 0, .int 0, .int 0, .ref h19, .ref h20, .int 0, .int 0, .int 0, .ref h5, .ref h7, .ref h21, .ref h2, .ref h22, .ref h23, .ref h3, .int 0, .ref h24, .int 0, .ref h25])), (h1, .inl (cI, 9, .inl (upd (upd (upd (fun _ => 0) (Int32.toNatClampNeg 3) 5) (Int32.toNatClampNeg 4) 9) (Int32.toNatClampNeg 7) 1)))]) [0, 1] rfl
        have hDc := hD.sub (ws' := [(h0, .inr (10, [.ref h8, .ref h1, .ref h9, .ref h10, .ref h11, .ref h4, .ref h6, .int 0, .ref h12, .ref h13, .ref h14, .ref h15, .ref h16, .ref h17, .ref h18, .int 0, .int 0, .int 0, .ref h19, .ref h20, .int 0, .int 0, .int 0, .ref h5, .ref h7, .ref h21, .ref h2, .ref h22, .ref h23, .ref h3, .int 0, .ref h24, .int 0, .ref h25])), (h1, .inl (cI, 9, .inl (upd (upd (upd (fun _ => 0) (Int32.toNatClampNeg 3) 5) (Int32.toNatClampNeg 4) 9) (Int32.toNatClampNeg 7) 1)))]) [0, 1] (by decide) rfl
        refine va_calli (va_runV (As := []) (rest := [.int 1]) ⟨hx, hb, hml, hown, hts⟩ (k_X10_many l D cC cI cZ h0 h1 h8 h9 h10 h11 h4 h6 h12 h13 h14 h15 h16 h17 h18 h19 h20 h5 h7 h21 h2 h22 h23 h3 h24 h25 H.size ) (cwV (C := RX10) 0 hts (goodIn_app (goodIn_of _ (by decide +kernel)) gc_k_X10_before_k_X10_many) rfl rfl rfl (by decide +kernel) ⟨(Nat.le_of_ble_eq_true rfl), (Nat.le_of_ble_eq_true rfl)⟩) (kPreV hK hPc hDc (va_recv hK hPc (ci := 10) (q0 := 0) rfl rfl)) rfl rfl hl.1 rfl (lv_room (Nat.le_of_ble_eq_true rfl)) dX10_before_27 ⟨(Nat.le_of_ble_eq_true rfl), (Nat.le_of_ble_eq_true rfl)⟩) hS (fun q _ h => False.elim h) (fun q h => False.elim h) (fun r18 u t H1 locs ht hvm hw hB hz1 hk1 hS => ?_)
        have hP := hP.kept (H1 := H1) (fun k q hk => hk1 q.1 (hP k q hk).lt (fun h => h))
        generalize H1 = H at hP hS ⊢
        have hw : r18 = 1 := hw
        subst hw
        refine lv_icmp_ge (tgt := 53) hx hb dX10_before_30 (by decide) (fun _ => ?_) (fun c => absurd (by decide) c)
        refine lv_aload_n hx hb dX10_before_53 rfl (lv_at hl 1 rfl) ?_
        refine va_get (D := D) (ci := 10) (v := .ref h2) (C := RX10) (T := TX10) (N := 34) hx hb hts iw_k_X10_before_X10 hown hK hP 0 rfl rfl 26 (by decide) (hts (.fieldLink RX10 68 "TopTurnedModel" "far" "[I") (by decide +kernel)) (fun _ h9 => h9) rfl dX10_before_54 ?_
        refine lv_aload_n hx hb dX10_before_57 rfl (lv_at hl 1 rfl) ?_
        have hPc := hP.sub (ws' := [(h0, .inr (10, [.ref h8, .ref h1, .ref h9, .ref h10, .ref h11, .ref h4, .ref h6, .int 0, .ref h12, .ref h13, .ref h14, .ref h15, .ref h16, .ref h17, .ref h18, .int 0, .int 0, .int 0, .ref h19, .ref h20, .int 0, .int 0, .int 0, .ref h5, .ref h7, .ref h21, .ref h2, .ref h22, .ref h23, .ref h3, .int 0, .ref h24, .int 0, .ref h25])), (h4, .inl (cI, 5, .inl (fun _ => 0))), (h5, .inl (cI, 5, .inl (fun _ => 0))), (h6, .inl (cI, 5, .inl (fun _ => 0))), (h7, .inl (cI, 5, .inl (fun _ => 0))), (h1, .inl (cI, 9, .inl (upd (upd (upd (fun _ => 0) (Int32.toNatClampNeg 3) 5) (Int32.toNatClampNeg 4) 9) (Int32.toNatClampNeg 7) 1)))]) [0, 4, 5, 6, 7, 1] rfl
        have hDc := hD.sub (ws' := [(h0, .inr (10, [.ref h8, .ref h1, .ref h9, .ref h10, .ref h11, .ref h4, .ref h6, .int 0, .ref h12, .ref h13, .ref h14, .ref h15, .ref h16, .ref h17, .ref h18, .int 0, .int 0, .int 0, .ref h19, .ref h20, .int 0, .int 0, .int 0, .ref h5, .ref h7, .ref h21, .ref h2, .ref h22, .ref h23, .ref h3, .int 0, .ref h24, .int 0, .ref h25])), (h4, .inl (cI, 5, .inl (fun _ => 0))), (h5, .inl (cI, 5, .inl (fun _ => 0))), (h6, .inl (cI, 5, .inl (fun _ => 0))), (h7, .inl (cI, 5, .inl (fun _ => 0))), (h1, .inl (cI, 9, .inl (upd (upd (upd (fun _ => 0) (Int32.toNatClampNeg 3) 5) (Int32.toNatClampNeg 4) 9) (Int32.toNatClampNeg 7) 1)))]) [0, 4, 5, 6, 7, 1] (by decide) rfl
        have hFc := va_free (wc := [(h0, .inr (10, [.ref h8, .ref h1, .ref h9, .ref h10, .ref h11, .ref h4, .ref h6, .int 0, .ref h12, .ref h13, .ref h14, .ref h15, .ref h16, .ref h17, .ref h18, .int 0, .int 0, .int 0, .ref h19, .ref h20, .int 0, .int 0, .int 0, .ref h5, .ref h7, .ref h21, .ref h2, .ref h22, .ref h23, .ref h3, .int 0, .ref h24, .int 0, .ref h25])), (h4, .inl (cI, 5, .inl (fun _ => 0))), (h5, .inl (cI, 5, .inl (fun _ => 0))), (h6, .inl (cI, 5, .inl (fun _ => 0))), (h7, .inl (cI, 5, .inl (fun _ => 0))), (h1, .inl (cI, 9, .inl (upd (upd (upd (fun _ => 0) (Int32.toNatClampNeg 3) 5) (Int32.toNatClampNeg 4) 9) (Int32.toNatClampNeg 7) 1)))]) hD hS hA [0, 4, 5, 6, 7, 1] rfl
        refine va_calli (va_runV (As := []) (rest := [.ref h2]) ⟨hx, hb, hml, hown, hts⟩ (k_X10_now_1 l D cC cI cZ h0 h4 h5 h6 h7 h1 h8 h9 h10 h11 h12 h13 h14 h15 h16 h17 h18 h19 h20 h21 h2 h22 h23 h3 h24 h25 H.size ) (cwV (C := RX10) 0 hts (goodIn_app (goodIn_of _ (by decide +kernel)) gc_k_X10_before_k_X10_now_1) rfl rfl rfl (by decide +kernel) ⟨(Nat.le_of_ble_eq_true rfl), (Nat.le_of_ble_eq_true rfl)⟩) (kPreV hK hPc hDc (va_recv hK hPc (ci := 10) (q0 := 0) rfl rfl)) rfl rfl hl.1 rfl (lv_room (Nat.le_of_ble_eq_true rfl)) dX10_before_58 ⟨(Nat.le_of_ble_eq_true rfl), (Nat.le_of_ble_eq_true rfl)⟩) hS (fun q _ h => hFc q h) hFc (fun r19 u t H1 locs ht hvm hw hB hz1 hk1 hS => ?_)
        obtain ⟨hP1, hD1⟩ := hB
        rw [ht] at hP1
        obtain ⟨hP, hD⟩ := va_join (wr := [(h2, .inl (cI, 3840, .inl (upd (fun _ => 0) (Int32.toNatClampNeg 0) (-1)))), (h3, .inl (cI, 3840, .inl (fun _ => 0))), (h8, .inl (cI, 7, .inl (fun _ => 0)))]) (w1 := [(h1, .inl (cI, 9, .inl (upd (upd (upd (fun _ => 0) (Int32.toNatClampNeg 3) 5) (Int32.toNatClampNeg 4) 9) (Int32.toNatClampNeg 7) 1))), (h0, .inr (10, [.ref h8, .ref h1, .ref h9, .ref h10, .ref h11, .ref h4, .ref h6, .int 0, .ref h12, .ref h13, .ref h14, .ref h15, .ref h16, .ref h17, .ref h18, .int 0, .int 0, .int 0, .ref h19, .ref h20, .int 0, .int 0, .int 0, .ref h5, .ref h7, .ref h21, .ref h2, .ref h22, .ref h23, .ref h3, .int 0, .ref h24, .int 0, .ref h25])), (h4, .inl (cI, 5, .inl (fun _ => 0))), (h5, .inl (cI, 5, .inl (fun _ => 0))), (h6, .inl (cI, 5, .inl (fun _ => 0))), (h7, .inl (cI, 5, .inl (fun _ => 0)))]) hP hD [0, 4, 5, 6, 7, 1] [2, 3, 8] rfl rfl (by decide) (by decide) hk1 hFc hP1 hD1
        generalize H1 = H at hP hS ⊢
        have hP : va_P D vwCl [(h2, .inl (cI, 3840, .inl (upd (fun _ => 0) (Int32.toNatClampNeg 0) (-1)))), (h3, .inl (cI, 3840, .inl (fun _ => 0))), (h8, .inl (cI, 7, .inl (fun _ => 0))), (h1, .inl (cI, 9, .inl (upd (upd (upd (fun _ => 0) (Int32.toNatClampNeg 3) 5) (Int32.toNatClampNeg 4) 9) (Int32.toNatClampNeg 7) 1))), (h0, .inr (10, [.ref h8, .ref h1, .ref h9, .ref h10, .ref h11, .ref h4, .ref h6, .int 0, .ref h12, .ref h13, .ref h14, .ref h15, .ref h16, .ref h17, .ref h18, .int 0, .int 0, .int 0, .ref h19, .ref h20, .int 0, .int 0, .int 0, .ref h5, .ref h7, .ref h21, .ref h2, .ref h22, .ref h23, .ref h3, .int 0, .ref h24, .int 0, .ref h25])), (h4, .inl (cI, 5, .inl (fun _ => 0))), (h5, .inl (cI, 5, .inl (fun _ => 0))), (h6, .inl (cI, 5, .inl (fun _ => 0))), (h7, .inl (cI, 5, .inl (fun _ => 0)))] H := hP
        have hD : va_D A [(h2, .inl (cI, 3840, .inl (upd (fun _ => 0) (Int32.toNatClampNeg 0) (-1)))), (h3, .inl (cI, 3840, .inl (fun _ => 0))), (h8, .inl (cI, 7, .inl (fun _ => 0))), (h1, .inl (cI, 9, .inl (upd (upd (upd (fun _ => 0) (Int32.toNatClampNeg 3) 5) (Int32.toNatClampNeg 4) 9) (Int32.toNatClampNeg 7) 1))), (h0, .inr (10, [.ref h8, .ref h1, .ref h9, .ref h10, .ref h11, .ref h4, .ref h6, .int 0, .ref h12, .ref h13, .ref h14, .ref h15, .ref h16, .ref h17, .ref h18, .int 0, .int 0, .int 0, .ref h19, .ref h20, .int 0, .int 0, .int 0, .ref h5, .ref h7, .ref h21, .ref h2, .ref h22, .ref h23, .ref h3, .int 0, .ref h24, .int 0, .ref h25])), (h4, .inl (cI, 5, .inl (fun _ => 0))), (h5, .inl (cI, 5, .inl (fun _ => 0))), (h6, .inl (cI, 5, .inl (fun _ => 0))), (h7, .inl (cI, 5, .inl (fun _ => 0)))] := hD
        have hw : r19 = 0 := hw
        subst hw
        refine lv_iconst (v := 0) hx hb dX10_before_61 (by decide) ?_
        refine va_iast (i := 0) (x := 0) hx hb hK hP hD hS 0 1 rfl rfl (vp_in_iff.mpr (by decide)) dX10_before_62 (fun H locs hP hD hS => ?_)
        have hP : va_P D vwCl [(h2, .inl (cI, 3840, .inl (upd (upd (fun _ => 0) (Int32.toNatClampNeg 0) (-1)) (Int32.toNatClampNeg 0) 0))), (h3, .inl (cI, 3840, .inl (fun _ => 0))), (h8, .inl (cI, 7, .inl (fun _ => 0))), (h1, .inl (cI, 9, .inl (upd (upd (upd (fun _ => 0) (Int32.toNatClampNeg 3) 5) (Int32.toNatClampNeg 4) 9) (Int32.toNatClampNeg 7) 1))), (h0, .inr (10, [.ref h8, .ref h1, .ref h9, .ref h10, .ref h11, .ref h4, .ref h6, .int 0, .ref h12, .ref h13, .ref h14, .ref h15, .ref h16, .ref h17, .ref h18, .int 0, .int 0, .int 0, .ref h19, .ref h20, .int 0, .int 0, .int 0, .ref h5, .ref h7, .ref h21, .ref h2, .ref h22, .ref h23, .ref h3, .int 0, .ref h24, .int 0, .ref h25])), (h4, .inl (cI, 5, .inl (fun _ => 0))), (h5, .inl (cI, 5, .inl (fun _ => 0))), (h6, .inl (cI, 5, .inl (fun _ => 0))), (h7, .inl (cI, 5, .inl (fun _ => 0)))] H := hP
        have hD : va_D A [(h2, .inl (cI, 3840, .inl (upd (upd (fun _ => 0) (Int32.toNatClampNeg 0) (-1)) (Int32.toNatClampNeg 0) 0))), (h3, .inl (cI, 3840, .inl (fun _ => 0))), (h8, .inl (cI, 7, .inl (fun _ => 0))), (h1, .inl (cI, 9, .inl (upd (upd (upd (fun _ => 0) (Int32.toNatClampNeg 3) 5) (Int32.toNatClampNeg 4) 9) (Int32.toNatClampNeg 7) 1))), (h0, .inr (10, [.ref h8, .ref h1, .ref h9, .ref h10, .ref h11, .ref h4, .ref h6, .int 0, .ref h12, .ref h13, .ref h14, .ref h15, .ref h16, .ref h17, .ref h18, .int 0, .int 0, .int 0, .ref h19, .ref h20, .int 0, .int 0, .int 0, .ref h5, .ref h7, .ref h21, .ref h2, .ref h22, .ref h23, .ref h3, .int 0, .ref h24, .int 0, .ref h25])), (h4, .inl (cI, 5, .inl (fun _ => 0))), (h5, .inl (cI, 5, .inl (fun _ => 0))), (h6, .inl (cI, 5, .inl (fun _ => 0))), (h7, .inl (cI, 5, .inl (fun _ => 0)))] := hD
        refine lv_iconst (v := 0) hx hb dX10_before_63 (by decide) ?_
        refine lv_istore_n (lv' := [(2, .int 0), (0, .ref h0), (1, .int 2)]) hx hb dX10_before_64 rfl hl (by decide) rfl (fun ls hl => ?_)
        refine lv_iload_n hx hb dX10_before_65 rfl (lv_at hl 0 rfl) ?_
        refine lv_iload_n hx hb dX10_before_66 rfl (lv_at hl 2 rfl) ?_
        refine lv_icmp_ge (tgt := 229) hx hb dX10_before_67 (by decide) (fun c => absurd c (by decide)) (fun _ => ?_)
        refine lv_iconst (v := 0) hx hb dX10_before_70 (by decide) ?_
        refine lv_istore_n (lv' := [(3, .int 0), (2, .int 0), (0, .ref h0), (1, .int 2)]) hx hb dX10_before_71 rfl hl (by decide) rfl (fun ls hl => ?_)
        refine lv_iload_n hx hb dX10_before_72 rfl (lv_at hl 0 rfl) ?_
        refine lv_aload_n hx hb dX10_before_73 rfl (lv_at hl 2 rfl) ?_
        have hPc := hP.sub (ws' := [(h0, .inr (10, [.ref h8, .ref h1, .ref h9, .ref h10, .ref h11, .ref h4, .ref h6, .int 0, .ref h12, .ref h13, .ref h14, .ref h15, .ref h16, .ref h17, .ref h18, .int 0, .int 0, .int 0, .ref h19, .ref h20, .int 0, .int 0, .int 0, .ref h5, .ref h7, .ref h21, .ref h2, .ref h22, .ref h23, .ref h3, .int 0, .ref h24, .int 0, .ref h25])), (h1, .inl (cI, 9, .inl (upd (upd (upd (fun _ => 0) (Int32.toNatClampNeg 3) 5) (Int32.toNatClampNeg 4) 9) (Int32.toNatClampNeg 7) 1)))]) [4, 3] rfl
        have hDc := hD.sub (ws' := [(h0, .inr (10, [.ref h8, .ref h1, .ref h9, .ref h10, .ref h11, .ref h4, .ref h6, .int 0, .ref h12, .ref h13, .ref h14, .ref h15, .ref h16, .ref h17, .ref h18, .int 0, .int 0, .int 0, .ref h19, .ref h20, .int 0, .int 0, .int 0, .ref h5, .ref h7, .ref h21, .ref h2, .ref h22, .ref h23, .ref h3, .int 0, .ref h24, .int 0, .ref h25])), (h1, .inl (cI, 9, .inl (upd (upd (upd (fun _ => 0) (Int32.toNatClampNeg 3) 5) (Int32.toNatClampNeg 4) 9) (Int32.toNatClampNeg 7) 1)))]) [4, 3] (by decide) rfl
        refine va_calli (va_runV (As := []) (rest := [.int 0]) ⟨hx, hb, hml, hown, hts⟩ (k_X10_many l D cC cI cZ h0 h1 h8 h9 h10 h11 h4 h6 h12 h13 h14 h15 h16 h17 h18 h19 h20 h5 h7 h21 h2 h22 h23 h3 h24 h25 H.size ) (cwV (C := RX10) 0 hts (goodIn_app (goodIn_of _ (by decide +kernel)) gc_k_X10_before_k_X10_many) rfl rfl rfl (by decide +kernel) ⟨(Nat.le_of_ble_eq_true rfl), (Nat.le_of_ble_eq_true rfl)⟩) (kPreV hK hPc hDc (va_recv hK hPc (ci := 10) (q0 := 0) rfl rfl)) rfl rfl hl.1 rfl (lv_room (Nat.le_of_ble_eq_true rfl)) dX10_before_74 ⟨(Nat.le_of_ble_eq_true rfl), (Nat.le_of_ble_eq_true rfl)⟩) hS (fun q _ h => False.elim h) (fun q h => False.elim h) (fun r20 u t H1 locs ht hvm hw hB hz1 hk1 hS => ?_)
        have hP := hP.kept (H1 := H1) (fun k q hk => hk1 q.1 (hP k q hk).lt (fun h => h))
        generalize H1 = H at hP hS ⊢
        have hw : r20 = 1 := hw
        subst hw
        refine lv_icmp_ge (tgt := 175) hx hb dX10_before_77 (by decide) (fun c => absurd c (by decide)) (fun _ => ?_)
        refine lv_iconst (v := 0) hx hb dX10_before_80 (by decide) ?_
        refine lv_istore (lv' := [(4, .int 0), (3, .int 0), (2, .int 0), (0, .ref h0), (1, .int 2)]) hx hb dX10_before_81 hl (by decide) rfl (fun ls hl => ?_)
        refine lv_iload hx hb dX10_before_83 (lv_at hl 0 rfl) ?_
        refine lv_aload_n hx hb dX10_before_85 rfl (lv_at hl 3 rfl) ?_
        refine va_get (D := D) (ci := 10) (v := .ref h1) (C := RX10) (T := TX10) (N := 34) hx hb hts iw_k_X10_before_X10 hown hK hP 4 rfl rfl 1 (by decide) (hts (.fieldLink RX10 13 "TopTurnedModel" "told" "[I") (by decide +kernel)) (fun _ h9 => h9) rfl dX10_before_86 ?_
        refine lv_iconst (v := 0) hx hb dX10_before_89 (by decide) ?_
        refine va_iald (i := 0) hx hb hK hP 3 1 rfl rfl (vp_in_iff.mpr (by decide)) dX10_before_90 ?_
        refine kt_eq (y := 0) (by decide +kernel) ?_
        refine lv_icmp_ge (tgt := 169) hx hb dX10_before_91 (by decide) (fun _ => ?_) (fun c => absurd (by decide) c)
        refine lv_iinc (v := 1) (lv' := [(3, .int 1), (4, .int 0), (2, .int 0), (0, .ref h0), (1, .int 2)]) hx hb dX10_before_169 hl (k := 1) rfl (by decide) (by decide) rfl (fun ls hl => ?_)
        refine lv_goto (tgt := 72) hx hb dX10_before_172 (by decide) ?_
        refine lv_iload_n hx hb dX10_before_72 rfl (lv_at hl 0 rfl) ?_
        refine lv_aload_n hx hb dX10_before_73 rfl (lv_at hl 3 rfl) ?_
        have hPc := hP.sub (ws' := [(h0, .inr (10, [.ref h8, .ref h1, .ref h9, .ref h10, .ref h11, .ref h4, .ref h6, .int 0, .ref h12, .ref h13, .ref h14, .ref h15, .ref h16, .ref h17, .ref h18, .int 0, .int 0, .int 0, .ref h19, .ref h20, .int 0, .int 0, .int 0, .ref h5, .ref h7, .ref h21, .ref h2, .ref h22, .ref h23, .ref h3, .int 0, .ref h24, .int 0, .ref h25])), (h1, .inl (cI, 9, .inl (upd (upd (upd (fun _ => 0) (Int32.toNatClampNeg 3) 5) (Int32.toNatClampNeg 4) 9) (Int32.toNatClampNeg 7) 1)))]) [4, 3] rfl
        have hDc := hD.sub (ws' := [(h0, .inr (10, [.ref h8, .ref h1, .ref h9, .ref h10, .ref h11, .ref h4, .ref h6, .int 0, .ref h12, .ref h13, .ref h14, .ref h15, .ref h16, .ref h17, .ref h18, .int 0, .int 0, .int 0, .ref h19, .ref h20, .int 0, .int 0, .int 0, .ref h5, .ref h7, .ref h21, .ref h2, .ref h22, .ref h23, .ref h3, .int 0, .ref h24, .int 0, .ref h25])), (h1, .inl (cI, 9, .inl (upd (upd (upd (fun _ => 0) (Int32.toNatClampNeg 3) 5) (Int32.toNatClampNeg 4) 9) (Int32.toNatClampNeg 7) 1)))]) [4, 3] (by decide) rfl
        refine va_calli (va_runV (As := []) (rest := [.int 1]) ⟨hx, hb, hml, hown, hts⟩ (k_X10_many l D cC cI cZ h0 h1 h8 h9 h10 h11 h4 h6 h12 h13 h14 h15 h16 h17 h18 h19 h20 h5 h7 h21 h2 h22 h23 h3 h24 h25 H.size ) (cwV (C := RX10) 0 hts (goodIn_app (goodIn_of _ (by decide +kernel)) gc_k_X10_before_k_X10_many) rfl rfl rfl (by decide +kernel) ⟨(Nat.le_of_ble_eq_true rfl), (Nat.le_of_ble_eq_true rfl)⟩) (kPreV hK hPc hDc (va_recv hK hPc (ci := 10) (q0 := 0) rfl rfl)) rfl rfl hl.1 rfl (lv_room (Nat.le_of_ble_eq_true rfl)) dX10_before_74 ⟨(Nat.le_of_ble_eq_true rfl), (Nat.le_of_ble_eq_true rfl)⟩) hS (fun q _ h => False.elim h) (fun q h => False.elim h) (fun r21 u t H1 locs ht hvm hw hB hz1 hk1 hS => ?_)
        have hP := hP.kept (H1 := H1) (fun k q hk => hk1 q.1 (hP k q hk).lt (fun h => h))
        generalize H1 = H at hP hS ⊢
        have hw : r21 = 1 := hw
        subst hw
        refine lv_icmp_ge (tgt := 175) hx hb dX10_before_77 (by decide) (fun _ => ?_) (fun c => absurd (by decide) c)
        refine lv_iconst (v := 0) hx hb dX10_before_175 (by decide) ?_
        refine lv_istore_n (lv' := [(3, .int 0), (4, .int 0), (2, .int 0), (0, .ref h0), (1, .int 2)]) hx hb dX10_before_176 rfl hl (by decide) rfl (fun ls hl => ?_)
        refine lv_iload_n hx hb dX10_before_177 rfl (lv_at hl 0 rfl) ?_
        refine lv_aload_n hx hb dX10_before_178 rfl (lv_at hl 3 rfl) ?_
        have hPc := hP.sub (ws' := [(h0, .inr (10, [.ref h8, .ref h1, .ref h9, .ref h10, .ref h11, .ref h4, .ref h6, .int 0, .ref h12, .ref h13, .ref h14, .ref h15, .ref h16, .ref h17, .ref h18, .int 0, .int 0, .int 0, .ref h19, .ref h20, .int 0, .int 0, .int 0, .ref h5, .ref h7, .ref h21, .ref h2, .ref h22, .ref h23, .ref h3, .int 0, .ref h24, .int 0, .ref h25])), (h1, .inl (cI, 9, .inl (upd (upd (upd (fun _ => 0) (Int32.toNatClampNeg 3) 5) (Int32.toNatClampNeg 4) 9) (Int32.toNatClampNeg 7) 1)))]) [4, 3] rfl
        have hDc := hD.sub (ws' := [(h0, .inr (10, [.ref h8, .ref h1, .ref h9, .ref h10, .ref h11, .ref h4, .ref h6, .int 0, .ref h12, .ref h13, .ref h14, .ref h15, .ref h16, .ref h17, .ref h18, .int 0, .int 0, .int 0, .ref h19, .ref h20, .int 0, .int 0, .int 0, .ref h5, .ref h7, .ref h21, .ref h2, .ref h22, .ref h23, .ref h3, .int 0, .ref h24, .int 0, .ref h25])), (h1, .inl (cI, 9, .inl (upd (upd (upd (fun _ => 0) (Int32.toNatClampNeg 3) 5) (Int32.toNatClampNeg 4) 9) (Int32.toNatClampNeg 7) 1)))]) [4, 3] (by decide) rfl
        refine va_calli (va_runV (As := []) (rest := [.int 0]) ⟨hx, hb, hml, hown, hts⟩ (k_X10_many l D cC cI cZ h0 h1 h8 h9 h10 h11 h4 h6 h12 h13 h14 h15 h16 h17 h18 h19 h20 h5 h7 h21 h2 h22 h23 h3 h24 h25 H.size ) (cwV (C := RX10) 0 hts (goodIn_app (goodIn_of _ (by decide +kernel)) gc_k_X10_before_k_X10_many) rfl rfl rfl (by decide +kernel) ⟨(Nat.le_of_ble_eq_true rfl), (Nat.le_of_ble_eq_true rfl)⟩) (kPreV hK hPc hDc (va_recv hK hPc (ci := 10) (q0 := 0) rfl rfl)) rfl rfl hl.1 rfl (lv_room (Nat.le_of_ble_eq_true rfl)) dX10_before_179 ⟨(Nat.le_of_ble_eq_true rfl), (Nat.le_of_ble_eq_true rfl)⟩) hS (fun q _ h => False.elim h) (fun q h => False.elim h) (fun r22 u t H1 locs ht hvm hw hB hz1 hk1 hS => ?_)
        have hP := hP.kept (H1 := H1) (fun k q hk => hk1 q.1 (hP k q hk).lt (fun h => h))
        generalize H1 = H at hP hS ⊢
        have hw : r22 = 1 := hw
        subst hw
        refine lv_icmp_ge (tgt := 223) hx hb dX10_before_182 (by decide) (fun c => absurd c (by decide)) (fun _ => ?_)
        refine lv_aload_n hx hb dX10_before_185 rfl (lv_at hl 3 rfl) ?_
        refine va_get (D := D) (ci := 10) (v := .ref h2) (C := RX10) (T := TX10) (N := 34) hx hb hts iw_k_X10_before_X10 hown hK hP 4 rfl rfl 26 (by decide) (hts (.fieldLink RX10 68 "TopTurnedModel" "far" "[I") (by decide +kernel)) (fun _ h9 => h9) rfl dX10_before_186 ?_
        refine lv_iload_n hx hb dX10_before_189 rfl (lv_at hl 0 rfl) ?_
        refine lv_aload_n hx hb dX10_before_190 rfl (lv_at hl 3 rfl) ?_
        refine va_get (D := D) (ci := 10) (v := .ref h3) (C := RX10) (T := TX10) (N := 34) hx hb hts iw_k_X10_before_X10 hown hK hP 4 rfl rfl 29 (by decide) (hts (.fieldLink RX10 77 "TopTurnedModel" "line" "[I") (by decide +kernel)) (fun _ h9 => h9) rfl dX10_before_191 ?_
        refine lv_iload_n hx hb dX10_before_194 rfl (lv_at hl 0 rfl) ?_
        refine va_iald (i := 0) hx hb hK hP 1 1 rfl rfl (vp_in_iff.mpr (by decide)) dX10_before_195 ?_
        refine kt_eq (y := 0) (by decide +kernel) ?_
        refine lv_iload_n hx hb dX10_before_196 rfl (lv_at hl 2 rfl) ?_
        refine lv_iconst (v := 1) hx hb dX10_before_197 (by decide) ?_
        refine lv_iadd hx hb dX10_before_198 ?_
        refine kt_eq (y := 1) (by decide +kernel) ?_
        refine lv_icmp_ne (tgt := 208) hx hb dX10_before_199 (by decide) (fun _ => ?_) (fun c => absurd c (by decide))
        refine lv_iconst (v := (-1)) hx hb dX10_before_208 (by decide) ?_
        refine va_iast (i := 0) (x := (-1)) hx hb hK hP hD hS 0 1 rfl rfl (vp_in_iff.mpr (by decide)) dX10_before_209 (fun H locs hP hD hS => ?_)
        have hP : va_P D vwCl [(h2, .inl (cI, 3840, .inl (upd (upd (upd (fun _ => 0) (Int32.toNatClampNeg 0) (-1)) (Int32.toNatClampNeg 0) 0) (Int32.toNatClampNeg 0) (-1)))), (h3, .inl (cI, 3840, .inl (fun _ => 0))), (h8, .inl (cI, 7, .inl (fun _ => 0))), (h1, .inl (cI, 9, .inl (upd (upd (upd (fun _ => 0) (Int32.toNatClampNeg 3) 5) (Int32.toNatClampNeg 4) 9) (Int32.toNatClampNeg 7) 1))), (h0, .inr (10, [.ref h8, .ref h1, .ref h9, .ref h10, .ref h11, .ref h4, .ref h6, .int 0, .ref h12, .ref h13, .ref h14, .ref h15, .ref h16, .ref h17, .ref h18, .int 0, .int 0, .int 0, .ref h19, .ref h20, .int 0, .int 0, .int 0, .ref h5, .ref h7, .ref h21, .ref h2, .ref h22, .ref h23, .ref h3, .int 0, .ref h24, .int 0, .ref h25])), (h4, .inl (cI, 5, .inl (fun _ => 0))), (h5, .inl (cI, 5, .inl (fun _ => 0))), (h6, .inl (cI, 5, .inl (fun _ => 0))), (h7, .inl (cI, 5, .inl (fun _ => 0)))] H := hP
        have hD : va_D A [(h2, .inl (cI, 3840, .inl (upd (upd (upd (fun _ => 0) (Int32.toNatClampNeg 0) (-1)) (Int32.toNatClampNeg 0) 0) (Int32.toNatClampNeg 0) (-1)))), (h3, .inl (cI, 3840, .inl (fun _ => 0))), (h8, .inl (cI, 7, .inl (fun _ => 0))), (h1, .inl (cI, 9, .inl (upd (upd (upd (fun _ => 0) (Int32.toNatClampNeg 3) 5) (Int32.toNatClampNeg 4) 9) (Int32.toNatClampNeg 7) 1))), (h0, .inr (10, [.ref h8, .ref h1, .ref h9, .ref h10, .ref h11, .ref h4, .ref h6, .int 0, .ref h12, .ref h13, .ref h14, .ref h15, .ref h16, .ref h17, .ref h18, .int 0, .int 0, .int 0, .ref h19, .ref h20, .int 0, .int 0, .int 0, .ref h5, .ref h7, .ref h21, .ref h2, .ref h22, .ref h23, .ref h3, .int 0, .ref h24, .int 0, .ref h25])), (h4, .inl (cI, 5, .inl (fun _ => 0))), (h5, .inl (cI, 5, .inl (fun _ => 0))), (h6, .inl (cI, 5, .inl (fun _ => 0))), (h7, .inl (cI, 5, .inl (fun _ => 0)))] := hD
        refine lv_aload_n hx hb dX10_before_210 rfl (lv_at hl 3 rfl) ?_
        refine va_get (D := D) (ci := 10) (v := .ref h3) (C := RX10) (T := TX10) (N := 34) hx hb hts iw_k_X10_before_X10 hown hK hP 4 rfl rfl 29 (by decide) (hts (.fieldLink RX10 77 "TopTurnedModel" "line" "[I") (by decide +kernel)) (fun _ h9 => h9) rfl dX10_before_211 ?_
        refine lv_iload_n hx hb dX10_before_214 rfl (lv_at hl 0 rfl) ?_
        refine lv_iconst (v := 0) hx hb dX10_before_215 (by decide) ?_
        refine kn_iastS (i := 0) (x := 0) hx hb hK hP hD hS 1 1 rfl rfl (vp_in_iff.mpr (by decide)) (by decide +kernel) dX10_before_216 (fun H locs hP hD hS => ?_)
        refine lv_iinc (v := 1) (lv' := [(3, .int 1), (4, .int 0), (2, .int 0), (0, .ref h0), (1, .int 2)]) hx hb dX10_before_217 hl (k := 0) rfl (by decide) (by decide) rfl (fun ls hl => ?_)
        refine lv_goto (tgt := 177) hx hb dX10_before_220 (by decide) ?_
        refine lv_iload_n hx hb dX10_before_177 rfl (lv_at hl 0 rfl) ?_
        refine lv_aload_n hx hb dX10_before_178 rfl (lv_at hl 3 rfl) ?_
        have hPc := hP.sub (ws' := [(h0, .inr (10, [.ref h8, .ref h1, .ref h9, .ref h10, .ref h11, .ref h4, .ref h6, .int 0, .ref h12, .ref h13, .ref h14, .ref h15, .ref h16, .ref h17, .ref h18, .int 0, .int 0, .int 0, .ref h19, .ref h20, .int 0, .int 0, .int 0, .ref h5, .ref h7, .ref h21, .ref h2, .ref h22, .ref h23, .ref h3, .int 0, .ref h24, .int 0, .ref h25])), (h1, .inl (cI, 9, .inl (upd (upd (upd (fun _ => 0) (Int32.toNatClampNeg 3) 5) (Int32.toNatClampNeg 4) 9) (Int32.toNatClampNeg 7) 1)))]) [4, 3] rfl
        have hDc := hD.sub (ws' := [(h0, .inr (10, [.ref h8, .ref h1, .ref h9, .ref h10, .ref h11, .ref h4, .ref h6, .int 0, .ref h12, .ref h13, .ref h14, .ref h15, .ref h16, .ref h17, .ref h18, .int 0, .int 0, .int 0, .ref h19, .ref h20, .int 0, .int 0, .int 0, .ref h5, .ref h7, .ref h21, .ref h2, .ref h22, .ref h23, .ref h3, .int 0, .ref h24, .int 0, .ref h25])), (h1, .inl (cI, 9, .inl (upd (upd (upd (fun _ => 0) (Int32.toNatClampNeg 3) 5) (Int32.toNatClampNeg 4) 9) (Int32.toNatClampNeg 7) 1)))]) [4, 3] (by decide) rfl
        refine va_calli (va_runV (As := []) (rest := [.int 1]) ⟨hx, hb, hml, hown, hts⟩ (k_X10_many l D cC cI cZ h0 h1 h8 h9 h10 h11 h4 h6 h12 h13 h14 h15 h16 h17 h18 h19 h20 h5 h7 h21 h2 h22 h23 h3 h24 h25 H.size ) (cwV (C := RX10) 0 hts (goodIn_app (goodIn_of _ (by decide +kernel)) gc_k_X10_before_k_X10_many) rfl rfl rfl (by decide +kernel) ⟨(Nat.le_of_ble_eq_true rfl), (Nat.le_of_ble_eq_true rfl)⟩) (kPreV hK hPc hDc (va_recv hK hPc (ci := 10) (q0 := 0) rfl rfl)) rfl rfl hl.1 rfl (lv_room (Nat.le_of_ble_eq_true rfl)) dX10_before_179 ⟨(Nat.le_of_ble_eq_true rfl), (Nat.le_of_ble_eq_true rfl)⟩) hS (fun q _ h => False.elim h) (fun q h => False.elim h) (fun r23 u t H1 locs ht hvm hw hB hz1 hk1 hS => ?_)
        have hP := hP.kept (H1 := H1) (fun k q hk => hk1 q.1 (hP k q hk).lt (fun h => h))
        generalize H1 = H at hP hS ⊢
        have hw : r23 = 1 := hw
        subst hw
        refine lv_icmp_ge (tgt := 223) hx hb dX10_before_182 (by decide) (fun _ => ?_) (fun c => absurd (by decide) c)
        refine lv_iinc (v := 1) (lv' := [(2, .int 1), (3, .int 1), (4, .int 0), (0, .ref h0), (1, .int 2)]) hx hb dX10_before_223 hl (k := 2) rfl (by decide) (by decide) rfl (fun ls hl => ?_)
        refine lv_goto (tgt := 65) hx hb dX10_before_226 (by decide) ?_
        refine lv_iload_n hx hb dX10_before_65 rfl (lv_at hl 0 rfl) ?_
        refine lv_iload_n hx hb dX10_before_66 rfl (lv_at hl 4 rfl) ?_
        refine lv_icmp_ge (tgt := 229) hx hb dX10_before_67 (by decide) (fun c => absurd c (by decide)) (fun _ => ?_)
        refine lv_iconst (v := 0) hx hb dX10_before_70 (by decide) ?_
        refine lv_istore_n (lv' := [(3, .int 0), (2, .int 1), (4, .int 0), (0, .ref h0), (1, .int 2)]) hx hb dX10_before_71 rfl hl (by decide) rfl (fun ls hl => ?_)
        refine lv_iload_n hx hb dX10_before_72 rfl (lv_at hl 0 rfl) ?_
        refine lv_aload_n hx hb dX10_before_73 rfl (lv_at hl 3 rfl) ?_
        have hPc := hP.sub (ws' := [(h0, .inr (10, [.ref h8, .ref h1, .ref h9, .ref h10, .ref h11, .ref h4, .ref h6, .int 0, .ref h12, .ref h13, .ref h14, .ref h15, .ref h16, .ref h17, .ref h18, .int 0, .int 0, .int 0, .ref h19, .ref h20, .int 0, .int 0, .int 0, .ref h5, .ref h7, .ref h21, .ref h2, .ref h22, .ref h23, .ref h3, .int 0, .ref h24, .int 0, .ref h25])), (h1, .inl (cI, 9, .inl (upd (upd (upd (fun _ => 0) (Int32.toNatClampNeg 3) 5) (Int32.toNatClampNeg 4) 9) (Int32.toNatClampNeg 7) 1)))]) [4, 3] rfl
        have hDc := hD.sub (ws' := [(h0, .inr (10, [.ref h8, .ref h1, .ref h9, .ref h10, .ref h11, .ref h4, .ref h6, .int 0, .ref h12, .ref h13, .ref h14, .ref h15, .ref h16, .ref h17, .ref h18, .int 0, .int 0, .int 0, .ref h19, .ref h20, .int 0, .int 0, .int 0, .ref h5, .ref h7, .ref h21, .ref h2, .ref h22, .ref h23, .ref h3, .int 0, .ref h24, .int 0, .ref h25])), (h1, .inl (cI, 9, .inl (upd (upd (upd (fun _ => 0) (Int32.toNatClampNeg 3) 5) (Int32.toNatClampNeg 4) 9) (Int32.toNatClampNeg 7) 1)))]) [4, 3] (by decide) rfl
        refine va_calli (va_runV (As := []) (rest := [.int 0]) ⟨hx, hb, hml, hown, hts⟩ (k_X10_many l D cC cI cZ h0 h1 h8 h9 h10 h11 h4 h6 h12 h13 h14 h15 h16 h17 h18 h19 h20 h5 h7 h21 h2 h22 h23 h3 h24 h25 H.size ) (cwV (C := RX10) 0 hts (goodIn_app (goodIn_of _ (by decide +kernel)) gc_k_X10_before_k_X10_many) rfl rfl rfl (by decide +kernel) ⟨(Nat.le_of_ble_eq_true rfl), (Nat.le_of_ble_eq_true rfl)⟩) (kPreV hK hPc hDc (va_recv hK hPc (ci := 10) (q0 := 0) rfl rfl)) rfl rfl hl.1 rfl (lv_room (Nat.le_of_ble_eq_true rfl)) dX10_before_74 ⟨(Nat.le_of_ble_eq_true rfl), (Nat.le_of_ble_eq_true rfl)⟩) hS (fun q _ h => False.elim h) (fun q h => False.elim h) (fun r24 u t H1 locs ht hvm hw hB hz1 hk1 hS => ?_)
        have hP := hP.kept (H1 := H1) (fun k q hk => hk1 q.1 (hP k q hk).lt (fun h => h))
        generalize H1 = H at hP hS ⊢
        have hw : r24 = 1 := hw
        subst hw
        refine lv_icmp_ge (tgt := 175) hx hb dX10_before_77 (by decide) (fun c => absurd c (by decide)) (fun _ => ?_)
        refine lv_iconst (v := 0) hx hb dX10_before_80 (by decide) ?_
        refine lv_istore (lv' := [(4, .int 0), (3, .int 0), (2, .int 1), (0, .ref h0), (1, .int 2)]) hx hb dX10_before_81 hl (by decide) rfl (fun ls hl => ?_)
        refine lv_iload hx hb dX10_before_83 (lv_at hl 0 rfl) ?_
        refine lv_aload_n hx hb dX10_before_85 rfl (lv_at hl 3 rfl) ?_
        refine va_get (D := D) (ci := 10) (v := .ref h1) (C := RX10) (T := TX10) (N := 34) hx hb hts iw_k_X10_before_X10 hown hK hP 4 rfl rfl 1 (by decide) (hts (.fieldLink RX10 13 "TopTurnedModel" "told" "[I") (by decide +kernel)) (fun _ h9 => h9) rfl dX10_before_86 ?_
        refine lv_iconst (v := 0) hx hb dX10_before_89 (by decide) ?_
        refine va_iald (i := 0) hx hb hK hP 3 1 rfl rfl (vp_in_iff.mpr (by decide)) dX10_before_90 ?_
        refine kt_eq (y := 0) (by decide +kernel) ?_
        refine lv_icmp_ge (tgt := 169) hx hb dX10_before_91 (by decide) (fun _ => ?_) (fun c => absurd (by decide) c)
        refine lv_iinc (v := 1) (lv' := [(3, .int 1), (4, .int 0), (2, .int 1), (0, .ref h0), (1, .int 2)]) hx hb dX10_before_169 hl (k := 1) rfl (by decide) (by decide) rfl (fun ls hl => ?_)
        refine lv_goto (tgt := 72) hx hb dX10_before_172 (by decide) ?_
        refine lv_iload_n hx hb dX10_before_72 rfl (lv_at hl 0 rfl) ?_
        refine lv_aload_n hx hb dX10_before_73 rfl (lv_at hl 3 rfl) ?_
        have hPc := hP.sub (ws' := [(h0, .inr (10, [.ref h8, .ref h1, .ref h9, .ref h10, .ref h11, .ref h4, .ref h6, .int 0, .ref h12, .ref h13, .ref h14, .ref h15, .ref h16, .ref h17, .ref h18, .int 0, .int 0, .int 0, .ref h19, .ref h20, .int 0, .int 0, .int 0, .ref h5, .ref h7, .ref h21, .ref h2, .ref h22, .ref h23, .ref h3, .int 0, .ref h24, .int 0, .ref h25])), (h1, .inl (cI, 9, .inl (upd (upd (upd (fun _ => 0) (Int32.toNatClampNeg 3) 5) (Int32.toNatClampNeg 4) 9) (Int32.toNatClampNeg 7) 1)))]) [4, 3] rfl
        have hDc := hD.sub (ws' := [(h0, .inr (10, [.ref h8, .ref h1, .ref h9, .ref h10, .ref h11, .ref h4, .ref h6, .int 0, .ref h12, .ref h13, .ref h14, .ref h15, .ref h16, .ref h17, .ref h18, .int 0, .int 0, .int 0, .ref h19, .ref h20, .int 0, .int 0, .int 0, .ref h5, .ref h7, .ref h21, .ref h2, .ref h22, .ref h23, .ref h3, .int 0, .ref h24, .int 0, .ref h25])), (h1, .inl (cI, 9, .inl (upd (upd (upd (fun _ => 0) (Int32.toNatClampNeg 3) 5) (Int32.toNatClampNeg 4) 9) (Int32.toNatClampNeg 7) 1)))]) [4, 3] (by decide) rfl
        refine va_calli (va_runV (As := []) (rest := [.int 1]) ⟨hx, hb, hml, hown, hts⟩ (k_X10_many l D cC cI cZ h0 h1 h8 h9 h10 h11 h4 h6 h12 h13 h14 h15 h16 h17 h18 h19 h20 h5 h7 h21 h2 h22 h23 h3 h24 h25 H.size ) (cwV (C := RX10) 0 hts (goodIn_app (goodIn_of _ (by decide +kernel)) gc_k_X10_before_k_X10_many) rfl rfl rfl (by decide +kernel) ⟨(Nat.le_of_ble_eq_true rfl), (Nat.le_of_ble_eq_true rfl)⟩) (kPreV hK hPc hDc (va_recv hK hPc (ci := 10) (q0 := 0) rfl rfl)) rfl rfl hl.1 rfl (lv_room (Nat.le_of_ble_eq_true rfl)) dX10_before_74 ⟨(Nat.le_of_ble_eq_true rfl), (Nat.le_of_ble_eq_true rfl)⟩) hS (fun q _ h => False.elim h) (fun q h => False.elim h) (fun r25 u t H1 locs ht hvm hw hB hz1 hk1 hS => ?_)
        have hP := hP.kept (H1 := H1) (fun k q hk => hk1 q.1 (hP k q hk).lt (fun h => h))
        generalize H1 = H at hP hS ⊢
        have hw : r25 = 1 := hw
        subst hw
        refine lv_icmp_ge (tgt := 175) hx hb dX10_before_77 (by decide) (fun _ => ?_) (fun c => absurd (by decide) c)
        refine lv_iconst (v := 0) hx hb dX10_before_175 (by decide) ?_
        refine lv_istore_n (lv' := [(3, .int 0), (4, .int 0), (2, .int 1), (0, .ref h0), (1, .int 2)]) hx hb dX10_before_176 rfl hl (by decide) rfl (fun ls hl => ?_)
        refine lv_iload_n hx hb dX10_before_177 rfl (lv_at hl 0 rfl) ?_
        refine lv_aload_n hx hb dX10_before_178 rfl (lv_at hl 3 rfl) ?_
        have hPc := hP.sub (ws' := [(h0, .inr (10, [.ref h8, .ref h1, .ref h9, .ref h10, .ref h11, .ref h4, .ref h6, .int 0, .ref h12, .ref h13, .ref h14, .ref h15, .ref h16, .ref h17, .ref h18, .int 0, .int 0, .int 0, .ref h19, .ref h20, .int 0, .int 0, .int 0, .ref h5, .ref h7, .ref h21, .ref h2, .ref h22, .ref h23, .ref h3, .int 0, .ref h24, .int 0, .ref h25])), (h1, .inl (cI, 9, .inl (upd (upd (upd (fun _ => 0) (Int32.toNatClampNeg 3) 5) (Int32.toNatClampNeg 4) 9) (Int32.toNatClampNeg 7) 1)))]) [4, 3] rfl
        have hDc := hD.sub (ws' := [(h0, .inr (10, [.ref h8, .ref h1, .ref h9, .ref h10, .ref h11, .ref h4, .ref h6, .int 0, .ref h12, .ref h13, .ref h14, .ref h15, .ref h16, .ref h17, .ref h18, .int 0, .int 0, .int 0, .ref h19, .ref h20, .int 0, .int 0, .int 0, .ref h5, .ref h7, .ref h21, .ref h2, .ref h22, .ref h23, .ref h3, .int 0, .ref h24, .int 0, .ref h25])), (h1, .inl (cI, 9, .inl (upd (upd (upd (fun _ => 0) (Int32.toNatClampNeg 3) 5) (Int32.toNatClampNeg 4) 9) (Int32.toNatClampNeg 7) 1)))]) [4, 3] (by decide) rfl
        refine va_calli (va_runV (As := []) (rest := [.int 0]) ⟨hx, hb, hml, hown, hts⟩ (k_X10_many l D cC cI cZ h0 h1 h8 h9 h10 h11 h4 h6 h12 h13 h14 h15 h16 h17 h18 h19 h20 h5 h7 h21 h2 h22 h23 h3 h24 h25 H.size ) (cwV (C := RX10) 0 hts (goodIn_app (goodIn_of _ (by decide +kernel)) gc_k_X10_before_k_X10_many) rfl rfl rfl (by decide +kernel) ⟨(Nat.le_of_ble_eq_true rfl), (Nat.le_of_ble_eq_true rfl)⟩) (kPreV hK hPc hDc (va_recv hK hPc (ci := 10) (q0 := 0) rfl rfl)) rfl rfl hl.1 rfl (lv_room (Nat.le_of_ble_eq_true rfl)) dX10_before_179 ⟨(Nat.le_of_ble_eq_true rfl), (Nat.le_of_ble_eq_true rfl)⟩) hS (fun q _ h => False.elim h) (fun q h => False.elim h) (fun r26 u t H1 locs ht hvm hw hB hz1 hk1 hS => ?_)
        have hP := hP.kept (H1 := H1) (fun k q hk => hk1 q.1 (hP k q hk).lt (fun h => h))
        generalize H1 = H at hP hS ⊢
        have hw : r26 = 1 := hw
        subst hw
        refine lv_icmp_ge (tgt := 223) hx hb dX10_before_182 (by decide) (fun c => absurd c (by decide)) (fun _ => ?_)
        refine lv_aload_n hx hb dX10_before_185 rfl (lv_at hl 3 rfl) ?_
        refine va_get (D := D) (ci := 10) (v := .ref h2) (C := RX10) (T := TX10) (N := 34) hx hb hts iw_k_X10_before_X10 hown hK hP 4 rfl rfl 26 (by decide) (hts (.fieldLink RX10 68 "TopTurnedModel" "far" "[I") (by decide +kernel)) (fun _ h9 => h9) rfl dX10_before_186 ?_
        refine lv_iload_n hx hb dX10_before_189 rfl (lv_at hl 0 rfl) ?_
        refine lv_aload_n hx hb dX10_before_190 rfl (lv_at hl 3 rfl) ?_
        refine va_get (D := D) (ci := 10) (v := .ref h3) (C := RX10) (T := TX10) (N := 34) hx hb hts iw_k_X10_before_X10 hown hK hP 4 rfl rfl 29 (by decide) (hts (.fieldLink RX10 77 "TopTurnedModel" "line" "[I") (by decide +kernel)) (fun _ h9 => h9) rfl dX10_before_191 ?_
        refine lv_iload_n hx hb dX10_before_194 rfl (lv_at hl 0 rfl) ?_
        refine va_iald (i := 0) hx hb hK hP 1 1 rfl rfl (vp_in_iff.mpr (by decide)) dX10_before_195 ?_
        refine kt_eq (y := 0) (by decide +kernel) ?_
        refine lv_iload_n hx hb dX10_before_196 rfl (lv_at hl 2 rfl) ?_
        refine lv_iconst (v := 1) hx hb dX10_before_197 (by decide) ?_
        refine lv_iadd hx hb dX10_before_198 ?_
        refine kt_eq (y := 2) (by decide +kernel) ?_
        refine lv_icmp_ne (tgt := 208) hx hb dX10_before_199 (by decide) (fun _ => ?_) (fun c => absurd c (by decide))
        refine lv_iconst (v := (-1)) hx hb dX10_before_208 (by decide) ?_
        refine kn_iastS (i := 0) (x := (-1)) hx hb hK hP hD hS 0 1 rfl rfl (vp_in_iff.mpr (by decide)) (by decide +kernel) dX10_before_209 (fun H locs hP hD hS => ?_)
        refine lv_aload_n hx hb dX10_before_210 rfl (lv_at hl 3 rfl) ?_
        refine va_get (D := D) (ci := 10) (v := .ref h3) (C := RX10) (T := TX10) (N := 34) hx hb hts iw_k_X10_before_X10 hown hK hP 4 rfl rfl 29 (by decide) (hts (.fieldLink RX10 77 "TopTurnedModel" "line" "[I") (by decide +kernel)) (fun _ h9 => h9) rfl dX10_before_211 ?_
        refine lv_iload_n hx hb dX10_before_214 rfl (lv_at hl 0 rfl) ?_
        refine lv_iconst (v := 0) hx hb dX10_before_215 (by decide) ?_
        refine kn_iastS (i := 0) (x := 0) hx hb hK hP hD hS 1 1 rfl rfl (vp_in_iff.mpr (by decide)) (by decide +kernel) dX10_before_216 (fun H locs hP hD hS => ?_)
        refine lv_iinc (v := 1) (lv' := [(3, .int 1), (4, .int 0), (2, .int 1), (0, .ref h0), (1, .int 2)]) hx hb dX10_before_217 hl (k := 0) rfl (by decide) (by decide) rfl (fun ls hl => ?_)
        refine lv_goto (tgt := 177) hx hb dX10_before_220 (by decide) ?_
        refine lv_iload_n hx hb dX10_before_177 rfl (lv_at hl 0 rfl) ?_
        refine lv_aload_n hx hb dX10_before_178 rfl (lv_at hl 3 rfl) ?_
        have hPc := hP.sub (ws' := [(h0, .inr (10, [.ref h8, .ref h1, .ref h9, .ref h10, .ref h11, .ref h4, .ref h6, .int 0, .ref h12, .ref h13, .ref h14, .ref h15, .ref h16, .ref h17, .ref h18, .int 0, .int 0, .int 0, .ref h19, .ref h20, .int 0, .int 0, .int 0, .ref h5, .ref h7, .ref h21, .ref h2, .ref h22, .ref h23, .ref h3, .int 0, .ref h24, .int 0, .ref h25])), (h1, .inl (cI, 9, .inl (upd (upd (upd (fun _ => 0) (Int32.toNatClampNeg 3) 5) (Int32.toNatClampNeg 4) 9) (Int32.toNatClampNeg 7) 1)))]) [4, 3] rfl
        have hDc := hD.sub (ws' := [(h0, .inr (10, [.ref h8, .ref h1, .ref h9, .ref h10, .ref h11, .ref h4, .ref h6, .int 0, .ref h12, .ref h13, .ref h14, .ref h15, .ref h16, .ref h17, .ref h18, .int 0, .int 0, .int 0, .ref h19, .ref h20, .int 0, .int 0, .int 0, .ref h5, .ref h7, .ref h21, .ref h2, .ref h22, .ref h23, .ref h3, .int 0, .ref h24, .int 0, .ref h25])), (h1, .inl (cI, 9, .inl (upd (upd (upd (fun _ => 0) (Int32.toNatClampNeg 3) 5) (Int32.toNatClampNeg 4) 9) (Int32.toNatClampNeg 7) 1)))]) [4, 3] (by decide) rfl
        refine va_calli (va_runV (As := []) (rest := [.int 1]) ⟨hx, hb, hml, hown, hts⟩ (k_X10_many l D cC cI cZ h0 h1 h8 h9 h10 h11 h4 h6 h12 h13 h14 h15 h16 h17 h18 h19 h20 h5 h7 h21 h2 h22 h23 h3 h24 h25 H.size ) (cwV (C := RX10) 0 hts (goodIn_app (goodIn_of _ (by decide +kernel)) gc_k_X10_before_k_X10_many) rfl rfl rfl (by decide +kernel) ⟨(Nat.le_of_ble_eq_true rfl), (Nat.le_of_ble_eq_true rfl)⟩) (kPreV hK hPc hDc (va_recv hK hPc (ci := 10) (q0 := 0) rfl rfl)) rfl rfl hl.1 rfl (lv_room (Nat.le_of_ble_eq_true rfl)) dX10_before_179 ⟨(Nat.le_of_ble_eq_true rfl), (Nat.le_of_ble_eq_true rfl)⟩) hS (fun q _ h => False.elim h) (fun q h => False.elim h) (fun r27 u t H1 locs ht hvm hw hB hz1 hk1 hS => ?_)
        have hP := hP.kept (H1 := H1) (fun k q hk => hk1 q.1 (hP k q hk).lt (fun h => h))
        generalize H1 = H at hP hS ⊢
        have hw : r27 = 1 := hw
        subst hw
        refine lv_icmp_ge (tgt := 223) hx hb dX10_before_182 (by decide) (fun _ => ?_) (fun c => absurd (by decide) c)
        refine lv_iinc (v := 2) (lv' := [(2, .int 2), (3, .int 1), (4, .int 0), (0, .ref h0), (1, .int 2)]) hx hb dX10_before_223 hl (k := 2) rfl (by decide) (by decide) rfl (fun ls hl => ?_)
        refine lv_goto (tgt := 65) hx hb dX10_before_226 (by decide) ?_
        refine lv_iload_n hx hb dX10_before_65 rfl (lv_at hl 0 rfl) ?_
        refine lv_iload_n hx hb dX10_before_66 rfl (lv_at hl 4 rfl) ?_
        refine lv_icmp_ge (tgt := 229) hx hb dX10_before_67 (by decide) (fun _ => ?_) (fun c => absurd (by decide) c)
        refine lv_iconst (v := 0) hx hb dX10_before_229 (by decide) ?_
        refine lv_istore_n (lv' := [(2, .int 0), (3, .int 1), (4, .int 0), (0, .ref h0), (1, .int 2)]) hx hb dX10_before_230 rfl hl (by decide) rfl (fun ls hl => ?_)
        refine lv_iconst (v := 0) hx hb dX10_before_231 (by decide) ?_
        refine lv_istore_n (lv' := [(3, .int 0), (2, .int 0), (4, .int 0), (0, .ref h0), (1, .int 2)]) hx hb dX10_before_232 rfl hl (by decide) rfl (fun ls hl => ?_)
        refine lv_iload_n hx hb dX10_before_233 rfl (lv_at hl 0 rfl) ?_
        refine lv_aload_n hx hb dX10_before_234 rfl (lv_at hl 3 rfl) ?_
        have hPc := hP.sub (ws' := [(h0, .inr (10, [.ref h8, .ref h1, .ref h9, .ref h10, .ref h11, .ref h4, .ref h6, .int 0, .ref h12, .ref h13, .ref h14, .ref h15, .ref h16, .ref h17, .ref h18, .int 0, .int 0, .int 0, .ref h19, .ref h20, .int 0, .int 0, .int 0, .ref h5, .ref h7, .ref h21, .ref h2, .ref h22, .ref h23, .ref h3, .int 0, .ref h24, .int 0, .ref h25])), (h1, .inl (cI, 9, .inl (upd (upd (upd (fun _ => 0) (Int32.toNatClampNeg 3) 5) (Int32.toNatClampNeg 4) 9) (Int32.toNatClampNeg 7) 1)))]) [4, 3] rfl
        have hDc := hD.sub (ws' := [(h0, .inr (10, [.ref h8, .ref h1, .ref h9, .ref h10, .ref h11, .ref h4, .ref h6, .int 0, .ref h12, .ref h13, .ref h14, .ref h15, .ref h16, .ref h17, .ref h18, .int 0, .int 0, .int 0, .ref h19, .ref h20, .int 0, .int 0, .int 0, .ref h5, .ref h7, .ref h21, .ref h2, .ref h22, .ref h23, .ref h3, .int 0, .ref h24, .int 0, .ref h25])), (h1, .inl (cI, 9, .inl (upd (upd (upd (fun _ => 0) (Int32.toNatClampNeg 3) 5) (Int32.toNatClampNeg 4) 9) (Int32.toNatClampNeg 7) 1)))]) [4, 3] (by decide) rfl
        refine va_calli (va_runV (As := []) (rest := [.int 0]) ⟨hx, hb, hml, hown, hts⟩ (k_X10_many l D cC cI cZ h0 h1 h8 h9 h10 h11 h4 h6 h12 h13 h14 h15 h16 h17 h18 h19 h20 h5 h7 h21 h2 h22 h23 h3 h24 h25 H.size ) (cwV (C := RX10) 0 hts (goodIn_app (goodIn_of _ (by decide +kernel)) gc_k_X10_before_k_X10_many) rfl rfl rfl (by decide +kernel) ⟨(Nat.le_of_ble_eq_true rfl), (Nat.le_of_ble_eq_true rfl)⟩) (kPreV hK hPc hDc (va_recv hK hPc (ci := 10) (q0 := 0) rfl rfl)) rfl rfl hl.1 rfl (lv_room (Nat.le_of_ble_eq_true rfl)) dX10_before_235 ⟨(Nat.le_of_ble_eq_true rfl), (Nat.le_of_ble_eq_true rfl)⟩) hS (fun q _ h => False.elim h) (fun q h => False.elim h) (fun r28 u t H1 locs ht hvm hw hB hz1 hk1 hS => ?_)
        have hP := hP.kept (H1 := H1) (fun k q hk => hk1 q.1 (hP k q hk).lt (fun h => h))
        generalize H1 = H at hP hS ⊢
        have hw : r28 = 1 := hw
        subst hw
        refine lv_icmp_ge (tgt := 265) hx hb dX10_before_238 (by decide) (fun c => absurd c (by decide)) (fun _ => ?_)
        refine lv_iload_n hx hb dX10_before_241 rfl (lv_at hl 1 rfl) ?_
        refine lv_aload_n hx hb dX10_before_242 rfl (lv_at hl 3 rfl) ?_
        refine va_get (D := D) (ci := 10) (v := .ref h2) (C := RX10) (T := TX10) (N := 34) hx hb hts iw_k_X10_before_X10 hown hK hP 4 rfl rfl 26 (by decide) (hts (.fieldLink RX10 68 "TopTurnedModel" "far" "[I") (by decide +kernel)) (fun _ h9 => h9) rfl dX10_before_243 ?_
        refine lv_iload_n hx hb dX10_before_246 rfl (lv_at hl 0 rfl) ?_
        refine va_iald (i := 0) hx hb hK hP 0 1 rfl rfl (vp_in_iff.mpr (by decide)) dX10_before_247 ?_
        refine kt_eq (y := (-1)) (by decide +kernel) ?_
        refine lv_iload_n hx hb dX10_before_248 rfl (lv_at hl 4 rfl) ?_
        refine lv_icmp_ne (tgt := 256) hx hb dX10_before_249 (by decide) (fun _ => ?_) (fun c => absurd c (by decide))
        refine lv_iconst (v := 0) hx hb dX10_before_256 (by decide) ?_
        refine lv_iadd hx hb dX10_before_257 ?_
        refine kt_eq (y := 0) (by decide +kernel) ?_
        refine lv_istore_n (lv' := [(2, .int 0), (3, .int 0), (4, .int 0), (0, .ref h0), (1, .int 2)]) hx hb dX10_before_258 rfl hl (by decide) rfl (fun ls hl => ?_)
        refine lv_iinc (v := 1) (lv' := [(3, .int 1), (2, .int 0), (4, .int 0), (0, .ref h0), (1, .int 2)]) hx hb dX10_before_259 hl (k := 1) rfl (by decide) (by decide) rfl (fun ls hl => ?_)
        refine lv_goto (tgt := 233) hx hb dX10_before_262 (by decide) ?_
        refine lv_iload_n hx hb dX10_before_233 rfl (lv_at hl 0 rfl) ?_
        refine lv_aload_n hx hb dX10_before_234 rfl (lv_at hl 3 rfl) ?_
        have hPc := hP.sub (ws' := [(h0, .inr (10, [.ref h8, .ref h1, .ref h9, .ref h10, .ref h11, .ref h4, .ref h6, .int 0, .ref h12, .ref h13, .ref h14, .ref h15, .ref h16, .ref h17, .ref h18, .int 0, .int 0, .int 0, .ref h19, .ref h20, .int 0, .int 0, .int 0, .ref h5, .ref h7, .ref h21, .ref h2, .ref h22, .ref h23, .ref h3, .int 0, .ref h24, .int 0, .ref h25])), (h1, .inl (cI, 9, .inl (upd (upd (upd (fun _ => 0) (Int32.toNatClampNeg 3) 5) (Int32.toNatClampNeg 4) 9) (Int32.toNatClampNeg 7) 1)))]) [4, 3] rfl
        have hDc := hD.sub (ws' := [(h0, .inr (10, [.ref h8, .ref h1, .ref h9, .ref h10, .ref h11, .ref h4, .ref h6, .int 0, .ref h12, .ref h13, .ref h14, .ref h15, .ref h16, .ref h17, .ref h18, .int 0, .int 0, .int 0, .ref h19, .ref h20, .int 0, .int 0, .int 0, .ref h5, .ref h7, .ref h21, .ref h2, .ref h22, .ref h23, .ref h3, .int 0, .ref h24, .int 0, .ref h25])), (h1, .inl (cI, 9, .inl (upd (upd (upd (fun _ => 0) (Int32.toNatClampNeg 3) 5) (Int32.toNatClampNeg 4) 9) (Int32.toNatClampNeg 7) 1)))]) [4, 3] (by decide) rfl
        refine va_calli (va_runV (As := []) (rest := [.int 1]) ⟨hx, hb, hml, hown, hts⟩ (k_X10_many l D cC cI cZ h0 h1 h8 h9 h10 h11 h4 h6 h12 h13 h14 h15 h16 h17 h18 h19 h20 h5 h7 h21 h2 h22 h23 h3 h24 h25 H.size ) (cwV (C := RX10) 0 hts (goodIn_app (goodIn_of _ (by decide +kernel)) gc_k_X10_before_k_X10_many) rfl rfl rfl (by decide +kernel) ⟨(Nat.le_of_ble_eq_true rfl), (Nat.le_of_ble_eq_true rfl)⟩) (kPreV hK hPc hDc (va_recv hK hPc (ci := 10) (q0 := 0) rfl rfl)) rfl rfl hl.1 rfl (lv_room (Nat.le_of_ble_eq_true rfl)) dX10_before_235 ⟨(Nat.le_of_ble_eq_true rfl), (Nat.le_of_ble_eq_true rfl)⟩) hS (fun q _ h => False.elim h) (fun q h => False.elim h) (fun r29 u t H1 locs ht hvm hw hB hz1 hk1 hS => ?_)
        have hP := hP.kept (H1 := H1) (fun k q hk => hk1 q.1 (hP k q hk).lt (fun h => h))
        generalize H1 = H at hP hS ⊢
        have hw : r29 = 1 := hw
        subst hw
        refine lv_icmp_ge (tgt := 265) hx hb dX10_before_238 (by decide) (fun _ => ?_) (fun c => absurd (by decide) c)
        refine lv_iload_n hx hb dX10_before_265 rfl (lv_at hl 1 rfl) ?_
        refine W.widen (k := 0) (n := 0) (Nat.le_of_ble_eq_true rfl) (Nat.le_of_ble_eq_true rfl) ?_
        exact W.iret (v := 0) hx hb hr (fun t ht hW => ⟨⟨0, (), rfl, (by decide), trivial⟩, hS.F ht⟩) hS.2.2 dX10_before_266
      · refine lv_iconst (v := 0) hx hb dX10_before_23 (by decide) ?_
        refine lv_istore_n (lv' := [(2, .int 0), (0, .ref h0), (1, .int 3)]) hx hb dX10_before_24 rfl hl (by decide) rfl (fun ls hl => ?_)
        refine lv_iload_n hx hb dX10_before_25 rfl (lv_at hl 0 rfl) ?_
        refine lv_aload_n hx hb dX10_before_26 rfl (lv_at hl 1 rfl) ?_
        have hPc := hP.sub (ws' := [(h0, .inr (10, [.ref h8, .ref h1, .ref h9, .ref h10, .ref h11, .ref h4, .ref h6, .int 0, .ref h12, .ref h13, .ref h14, .ref h15, .ref h16, .ref h17, .ref h18, .int 0, .int 0, .int 0, .ref h19, .ref h20, .int 0, .int 0, .int 0, .ref h5, .ref h7, .ref h21, .ref h2, .ref h22, .ref h23, .ref h3, .int 0, .ref h24, .int 0, .ref h25])), (h1, .inl (cI, 9, .inl (upd (upd (upd (fun _ => 0) (Int32.toNatClampNeg 3) 5) (Int32.toNatClampNeg 4) 9) (Int32.toNatClampNeg 7) 1)))]) [0, 1] rfl
        have hDc := hD.sub (ws' := [(h0, .inr (10, [.ref h8, .ref h1, .ref h9, .ref h10, .ref h11, .ref h4, .ref h6, .int 0, .ref h12, .ref h13, .ref h14, .ref h15, .ref h16, .ref h17, .ref h18, .int 0, .int 0, .int 0, .ref h19, .ref h20, .int 0, .int 0, .int 0, .ref h5, .ref h7, .ref h21, .ref h2, .ref h22, .ref h23, .ref h3, .int 0, .ref h24, .int 0, .ref h25])), (h1, .inl (cI, 9, .inl (upd (upd (upd (fun _ => 0) (Int32.toNatClampNeg 3) 5) (Int32.toNatClampNeg 4) 9) (Int32.toNatClampNeg 7) 1)))]) [0, 1] (by decide) rfl
        refine va_calli (va_runV (As := []) (rest := [.int 0]) ⟨hx, hb, hml, hown, hts⟩ (k_X10_many l D cC cI cZ h0 h1 h8 h9 h10 h11 h4 h6 h12 h13 h14 h15 h16 h17 h18 h19 h20 h5 h7 h21 h2 h22 h23 h3 h24 h25 s.heap.size ) (cwV (C := RX10) 0 hts (goodIn_app (goodIn_of _ (by decide +kernel)) gc_k_X10_before_k_X10_many) rfl rfl rfl (by decide +kernel) ⟨(Nat.le_of_ble_eq_true rfl), (Nat.le_of_ble_eq_true rfl)⟩) (kPreV hK hPc hDc (va_recv hK hPc (ci := 10) (q0 := 0) rfl rfl)) rfl rfl hl.1 rfl (lv_room (Nat.le_of_ble_eq_true rfl)) dX10_before_27 ⟨(Nat.le_of_ble_eq_true rfl), (Nat.le_of_ble_eq_true rfl)⟩) hS (fun q _ h => False.elim h) (fun q h => False.elim h) (fun r30 u t H1 locs ht hvm hw hB hz1 hk1 hS => ?_)
        have hP := hP.kept (H1 := H1) (fun k q hk => hk1 q.1 (hP k q hk).lt (fun h => h))
        generalize H1 = H at hP hS ⊢
        have hw : r30 = 1 := hw
        subst hw
        refine lv_icmp_ge (tgt := 53) hx hb dX10_before_30 (by decide) (fun c => absurd c (by decide)) (fun _ => ?_)
        refine lv_aload_n hx hb dX10_before_33 rfl (lv_at hl 1 rfl) ?_
        refine va_get (D := D) (ci := 10) (v := .ref h2) (C := RX10) (T := TX10) (N := 34) hx hb hts iw_k_X10_before_X10 hown hK hP 0 rfl rfl 26 (by decide) (hts (.fieldLink RX10 68 "TopTurnedModel" "far" "[I") (by decide +kernel)) (fun _ h9 => h9) rfl dX10_before_34 ?_
        refine lv_iload_n hx hb dX10_before_37 rfl (lv_at hl 0 rfl) ?_
        refine lv_iconst (v := (-1)) hx hb dX10_before_38 (by decide) ?_
        refine va_iast (i := 0) (x := (-1)) hx hb hK hP hD hS 2 1 rfl rfl (vp_in_iff.mpr (by decide)) dX10_before_39 (fun H locs hP hD hS => ?_)
        have hP : va_P D vwCl [(h0, .inr (10, [.ref h8, .ref h1, .ref h9, .ref h10, .ref h11, .ref h4, .ref h6, .int 0, .ref h12, .ref h13, .ref h14, .ref h15, .ref h16, .ref h17, .ref h18, .int 0, .int 0, .int 0, .ref h19, .ref h20, .int 0, .int 0, .int 0, .ref h5, .ref h7, .ref h21, .ref h2, .ref h22, .ref h23, .ref h3, .int 0, .ref h24, .int 0, .ref h25])), (h1, .inl (cI, 9, .inl (upd (upd (upd (fun _ => 0) (Int32.toNatClampNeg 3) 5) (Int32.toNatClampNeg 4) 9) (Int32.toNatClampNeg 7) 1))), (h2, .inl (cI, 3840, .inl (upd (fun _ => 0) (Int32.toNatClampNeg 0) (-1)))), (h3, .inl (cI, 3840, .inl (fun _ => 0))), (h4, .inl (cI, 5, .inl (fun _ => 0))), (h5, .inl (cI, 5, .inl (fun _ => 0))), (h6, .inl (cI, 5, .inl (fun _ => 0))), (h7, .inl (cI, 5, .inl (fun _ => 0))), (h8, .inl (cI, 7, .inl (fun _ => 0)))] H := hP
        have hD : va_D A [(h0, .inr (10, [.ref h8, .ref h1, .ref h9, .ref h10, .ref h11, .ref h4, .ref h6, .int 0, .ref h12, .ref h13, .ref h14, .ref h15, .ref h16, .ref h17, .ref h18, .int 0, .int 0, .int 0, .ref h19, .ref h20, .int 0, .int 0, .int 0, .ref h5, .ref h7, .ref h21, .ref h2, .ref h22, .ref h23, .ref h3, .int 0, .ref h24, .int 0, .ref h25])), (h1, .inl (cI, 9, .inl (upd (upd (upd (fun _ => 0) (Int32.toNatClampNeg 3) 5) (Int32.toNatClampNeg 4) 9) (Int32.toNatClampNeg 7) 1))), (h2, .inl (cI, 3840, .inl (upd (fun _ => 0) (Int32.toNatClampNeg 0) (-1)))), (h3, .inl (cI, 3840, .inl (fun _ => 0))), (h4, .inl (cI, 5, .inl (fun _ => 0))), (h5, .inl (cI, 5, .inl (fun _ => 0))), (h6, .inl (cI, 5, .inl (fun _ => 0))), (h7, .inl (cI, 5, .inl (fun _ => 0))), (h8, .inl (cI, 7, .inl (fun _ => 0)))] := hD
        refine lv_aload_n hx hb dX10_before_40 rfl (lv_at hl 1 rfl) ?_
        refine va_get (D := D) (ci := 10) (v := .ref h3) (C := RX10) (T := TX10) (N := 34) hx hb hts iw_k_X10_before_X10 hown hK hP 0 rfl rfl 29 (by decide) (hts (.fieldLink RX10 77 "TopTurnedModel" "line" "[I") (by decide +kernel)) (fun _ h9 => h9) rfl dX10_before_41 ?_
        refine lv_iload_n hx hb dX10_before_44 rfl (lv_at hl 0 rfl) ?_
        refine lv_iconst (v := 0) hx hb dX10_before_45 (by decide) ?_
        refine kn_iastS (i := 0) (x := 0) hx hb hK hP hD hS 3 1 rfl rfl (vp_in_iff.mpr (by decide)) (by decide +kernel) dX10_before_46 (fun H locs hP hD hS => ?_)
        refine lv_iinc (v := 1) (lv' := [(2, .int 1), (0, .ref h0), (1, .int 3)]) hx hb dX10_before_47 hl (k := 0) rfl (by decide) (by decide) rfl (fun ls hl => ?_)
        refine lv_goto (tgt := 25) hx hb dX10_before_50 (by decide) ?_
        refine lv_iload_n hx hb dX10_before_25 rfl (lv_at hl 0 rfl) ?_
        refine lv_aload_n hx hb dX10_before_26 rfl (lv_at hl 1 rfl) ?_
        have hPc := hP.sub (ws' := [(h0, .inr (10, [.ref h8, .ref h1, .ref h9, .ref h10, .ref h11, .ref h4, .ref h6, .int 0, .ref h12, .ref h13, .ref h14, .ref h15, .ref h16, .ref h17, .ref h18, .int 0, .int 0, .int 0, .ref h19, .ref h20, .int 0, .int 0, .int 0, .ref h5, .ref h7, .ref h21, .ref h2, .ref h22, .ref h23, .ref h3, .int 0, .ref h24, .int 0, .ref h25])), (h1, .inl (cI, 9, .inl (upd (upd (upd (fun _ => 0) (Int32.toNatClampNeg 3) 5) (Int32.toNatClampNeg 4) 9) (Int32.toNatClampNeg 7) 1)))]) [0, 1] rfl
        have hDc := hD.sub (ws' := [(h0, .inr (10, [.ref h8, .ref h1, .ref h9, .ref h10, .ref h11, .ref h4, .ref h6, .int 0, .ref h12, .ref h13, .ref h14, .ref h15, .ref h16, .ref h17, .ref h18, .int 0, .int 0, .int 0, .ref h19, .ref h20, .int 0, .int 0, .int 0, .ref h5, .ref h7, .ref h21, .ref h2, .ref h22, .ref h23, .ref h3, .int 0, .ref h24, .int 0, .ref h25])), (h1, .inl (cI, 9, .inl (upd (upd (upd (fun _ => 0) (Int32.toNatClampNeg 3) 5) (Int32.toNatClampNeg 4) 9) (Int32.toNatClampNeg 7) 1)))]) [0, 1] (by decide) rfl
        refine va_calli (va_runV (As := []) (rest := [.int 1]) ⟨hx, hb, hml, hown, hts⟩ (k_X10_many l D cC cI cZ h0 h1 h8 h9 h10 h11 h4 h6 h12 h13 h14 h15 h16 h17 h18 h19 h20 h5 h7 h21 h2 h22 h23 h3 h24 h25 H.size ) (cwV (C := RX10) 0 hts (goodIn_app (goodIn_of _ (by decide +kernel)) gc_k_X10_before_k_X10_many) rfl rfl rfl (by decide +kernel) ⟨(Nat.le_of_ble_eq_true rfl), (Nat.le_of_ble_eq_true rfl)⟩) (kPreV hK hPc hDc (va_recv hK hPc (ci := 10) (q0 := 0) rfl rfl)) rfl rfl hl.1 rfl (lv_room (Nat.le_of_ble_eq_true rfl)) dX10_before_27 ⟨(Nat.le_of_ble_eq_true rfl), (Nat.le_of_ble_eq_true rfl)⟩) hS (fun q _ h => False.elim h) (fun q h => False.elim h) (fun r31 u t H1 locs ht hvm hw hB hz1 hk1 hS => ?_)
        have hP := hP.kept (H1 := H1) (fun k q hk => hk1 q.1 (hP k q hk).lt (fun h => h))
        generalize H1 = H at hP hS ⊢
        have hw : r31 = 1 := hw
        subst hw
        refine lv_icmp_ge (tgt := 53) hx hb dX10_before_30 (by decide) (fun _ => ?_) (fun c => absurd (by decide) c)
        refine lv_aload_n hx hb dX10_before_53 rfl (lv_at hl 1 rfl) ?_
        refine va_get (D := D) (ci := 10) (v := .ref h2) (C := RX10) (T := TX10) (N := 34) hx hb hts iw_k_X10_before_X10 hown hK hP 0 rfl rfl 26 (by decide) (hts (.fieldLink RX10 68 "TopTurnedModel" "far" "[I") (by decide +kernel)) (fun _ h9 => h9) rfl dX10_before_54 ?_
        refine lv_aload_n hx hb dX10_before_57 rfl (lv_at hl 1 rfl) ?_
        have hPc := hP.sub (ws' := [(h0, .inr (10, [.ref h8, .ref h1, .ref h9, .ref h10, .ref h11, .ref h4, .ref h6, .int 0, .ref h12, .ref h13, .ref h14, .ref h15, .ref h16, .ref h17, .ref h18, .int 0, .int 0, .int 0, .ref h19, .ref h20, .int 0, .int 0, .int 0, .ref h5, .ref h7, .ref h21, .ref h2, .ref h22, .ref h23, .ref h3, .int 0, .ref h24, .int 0, .ref h25])), (h4, .inl (cI, 5, .inl (fun _ => 0))), (h5, .inl (cI, 5, .inl (fun _ => 0))), (h6, .inl (cI, 5, .inl (fun _ => 0))), (h7, .inl (cI, 5, .inl (fun _ => 0))), (h1, .inl (cI, 9, .inl (upd (upd (upd (fun _ => 0) (Int32.toNatClampNeg 3) 5) (Int32.toNatClampNeg 4) 9) (Int32.toNatClampNeg 7) 1)))]) [0, 4, 5, 6, 7, 1] rfl
        have hDc := hD.sub (ws' := [(h0, .inr (10, [.ref h8, .ref h1, .ref h9, .ref h10, .ref h11, .ref h4, .ref h6, .int 0, .ref h12, .ref h13, .ref h14, .ref h15, .ref h16, .ref h17, .ref h18, .int 0, .int 0, .int 0, .ref h19, .ref h20, .int 0, .int 0, .int 0, .ref h5, .ref h7, .ref h21, .ref h2, .ref h22, .ref h23, .ref h3, .int 0, .ref h24, .int 0, .ref h25])), (h4, .inl (cI, 5, .inl (fun _ => 0))), (h5, .inl (cI, 5, .inl (fun _ => 0))), (h6, .inl (cI, 5, .inl (fun _ => 0))), (h7, .inl (cI, 5, .inl (fun _ => 0))), (h1, .inl (cI, 9, .inl (upd (upd (upd (fun _ => 0) (Int32.toNatClampNeg 3) 5) (Int32.toNatClampNeg 4) 9) (Int32.toNatClampNeg 7) 1)))]) [0, 4, 5, 6, 7, 1] (by decide) rfl
        have hFc := va_free (wc := [(h0, .inr (10, [.ref h8, .ref h1, .ref h9, .ref h10, .ref h11, .ref h4, .ref h6, .int 0, .ref h12, .ref h13, .ref h14, .ref h15, .ref h16, .ref h17, .ref h18, .int 0, .int 0, .int 0, .ref h19, .ref h20, .int 0, .int 0, .int 0, .ref h5, .ref h7, .ref h21, .ref h2, .ref h22, .ref h23, .ref h3, .int 0, .ref h24, .int 0, .ref h25])), (h4, .inl (cI, 5, .inl (fun _ => 0))), (h5, .inl (cI, 5, .inl (fun _ => 0))), (h6, .inl (cI, 5, .inl (fun _ => 0))), (h7, .inl (cI, 5, .inl (fun _ => 0))), (h1, .inl (cI, 9, .inl (upd (upd (upd (fun _ => 0) (Int32.toNatClampNeg 3) 5) (Int32.toNatClampNeg 4) 9) (Int32.toNatClampNeg 7) 1)))]) hD hS hA [0, 4, 5, 6, 7, 1] rfl
        refine va_calli (va_runV (As := []) (rest := [.ref h2]) ⟨hx, hb, hml, hown, hts⟩ (k_X10_now_1 l D cC cI cZ h0 h4 h5 h6 h7 h1 h8 h9 h10 h11 h12 h13 h14 h15 h16 h17 h18 h19 h20 h21 h2 h22 h23 h3 h24 h25 H.size ) (cwV (C := RX10) 0 hts (goodIn_app (goodIn_of _ (by decide +kernel)) gc_k_X10_before_k_X10_now_1) rfl rfl rfl (by decide +kernel) ⟨(Nat.le_of_ble_eq_true rfl), (Nat.le_of_ble_eq_true rfl)⟩) (kPreV hK hPc hDc (va_recv hK hPc (ci := 10) (q0 := 0) rfl rfl)) rfl rfl hl.1 rfl (lv_room (Nat.le_of_ble_eq_true rfl)) dX10_before_58 ⟨(Nat.le_of_ble_eq_true rfl), (Nat.le_of_ble_eq_true rfl)⟩) hS (fun q _ h => hFc q h) hFc (fun r32 u t H1 locs ht hvm hw hB hz1 hk1 hS => ?_)
        obtain ⟨hP1, hD1⟩ := hB
        rw [ht] at hP1
        obtain ⟨hP, hD⟩ := va_join (wr := [(h2, .inl (cI, 3840, .inl (upd (fun _ => 0) (Int32.toNatClampNeg 0) (-1)))), (h3, .inl (cI, 3840, .inl (fun _ => 0))), (h8, .inl (cI, 7, .inl (fun _ => 0)))]) (w1 := [(h1, .inl (cI, 9, .inl (upd (upd (upd (fun _ => 0) (Int32.toNatClampNeg 3) 5) (Int32.toNatClampNeg 4) 9) (Int32.toNatClampNeg 7) 1))), (h0, .inr (10, [.ref h8, .ref h1, .ref h9, .ref h10, .ref h11, .ref h4, .ref h6, .int 0, .ref h12, .ref h13, .ref h14, .ref h15, .ref h16, .ref h17, .ref h18, .int 0, .int 0, .int 0, .ref h19, .ref h20, .int 0, .int 0, .int 0, .ref h5, .ref h7, .ref h21, .ref h2, .ref h22, .ref h23, .ref h3, .int 0, .ref h24, .int 0, .ref h25])), (h4, .inl (cI, 5, .inl (fun _ => 0))), (h5, .inl (cI, 5, .inl (fun _ => 0))), (h6, .inl (cI, 5, .inl (fun _ => 0))), (h7, .inl (cI, 5, .inl (fun _ => 0)))]) hP hD [0, 4, 5, 6, 7, 1] [2, 3, 8] rfl rfl (by decide) (by decide) hk1 hFc hP1 hD1
        generalize H1 = H at hP hS ⊢
        have hP : va_P D vwCl [(h2, .inl (cI, 3840, .inl (upd (fun _ => 0) (Int32.toNatClampNeg 0) (-1)))), (h3, .inl (cI, 3840, .inl (fun _ => 0))), (h8, .inl (cI, 7, .inl (fun _ => 0))), (h1, .inl (cI, 9, .inl (upd (upd (upd (fun _ => 0) (Int32.toNatClampNeg 3) 5) (Int32.toNatClampNeg 4) 9) (Int32.toNatClampNeg 7) 1))), (h0, .inr (10, [.ref h8, .ref h1, .ref h9, .ref h10, .ref h11, .ref h4, .ref h6, .int 0, .ref h12, .ref h13, .ref h14, .ref h15, .ref h16, .ref h17, .ref h18, .int 0, .int 0, .int 0, .ref h19, .ref h20, .int 0, .int 0, .int 0, .ref h5, .ref h7, .ref h21, .ref h2, .ref h22, .ref h23, .ref h3, .int 0, .ref h24, .int 0, .ref h25])), (h4, .inl (cI, 5, .inl (fun _ => 0))), (h5, .inl (cI, 5, .inl (fun _ => 0))), (h6, .inl (cI, 5, .inl (fun _ => 0))), (h7, .inl (cI, 5, .inl (fun _ => 0)))] H := hP
        have hD : va_D A [(h2, .inl (cI, 3840, .inl (upd (fun _ => 0) (Int32.toNatClampNeg 0) (-1)))), (h3, .inl (cI, 3840, .inl (fun _ => 0))), (h8, .inl (cI, 7, .inl (fun _ => 0))), (h1, .inl (cI, 9, .inl (upd (upd (upd (fun _ => 0) (Int32.toNatClampNeg 3) 5) (Int32.toNatClampNeg 4) 9) (Int32.toNatClampNeg 7) 1))), (h0, .inr (10, [.ref h8, .ref h1, .ref h9, .ref h10, .ref h11, .ref h4, .ref h6, .int 0, .ref h12, .ref h13, .ref h14, .ref h15, .ref h16, .ref h17, .ref h18, .int 0, .int 0, .int 0, .ref h19, .ref h20, .int 0, .int 0, .int 0, .ref h5, .ref h7, .ref h21, .ref h2, .ref h22, .ref h23, .ref h3, .int 0, .ref h24, .int 0, .ref h25])), (h4, .inl (cI, 5, .inl (fun _ => 0))), (h5, .inl (cI, 5, .inl (fun _ => 0))), (h6, .inl (cI, 5, .inl (fun _ => 0))), (h7, .inl (cI, 5, .inl (fun _ => 0)))] := hD
        have hw : r32 = 0 := hw
        subst hw
        refine lv_iconst (v := 0) hx hb dX10_before_61 (by decide) ?_
        refine va_iast (i := 0) (x := 0) hx hb hK hP hD hS 0 1 rfl rfl (vp_in_iff.mpr (by decide)) dX10_before_62 (fun H locs hP hD hS => ?_)
        have hP : va_P D vwCl [(h2, .inl (cI, 3840, .inl (upd (upd (fun _ => 0) (Int32.toNatClampNeg 0) (-1)) (Int32.toNatClampNeg 0) 0))), (h3, .inl (cI, 3840, .inl (fun _ => 0))), (h8, .inl (cI, 7, .inl (fun _ => 0))), (h1, .inl (cI, 9, .inl (upd (upd (upd (fun _ => 0) (Int32.toNatClampNeg 3) 5) (Int32.toNatClampNeg 4) 9) (Int32.toNatClampNeg 7) 1))), (h0, .inr (10, [.ref h8, .ref h1, .ref h9, .ref h10, .ref h11, .ref h4, .ref h6, .int 0, .ref h12, .ref h13, .ref h14, .ref h15, .ref h16, .ref h17, .ref h18, .int 0, .int 0, .int 0, .ref h19, .ref h20, .int 0, .int 0, .int 0, .ref h5, .ref h7, .ref h21, .ref h2, .ref h22, .ref h23, .ref h3, .int 0, .ref h24, .int 0, .ref h25])), (h4, .inl (cI, 5, .inl (fun _ => 0))), (h5, .inl (cI, 5, .inl (fun _ => 0))), (h6, .inl (cI, 5, .inl (fun _ => 0))), (h7, .inl (cI, 5, .inl (fun _ => 0)))] H := hP
        have hD : va_D A [(h2, .inl (cI, 3840, .inl (upd (upd (fun _ => 0) (Int32.toNatClampNeg 0) (-1)) (Int32.toNatClampNeg 0) 0))), (h3, .inl (cI, 3840, .inl (fun _ => 0))), (h8, .inl (cI, 7, .inl (fun _ => 0))), (h1, .inl (cI, 9, .inl (upd (upd (upd (fun _ => 0) (Int32.toNatClampNeg 3) 5) (Int32.toNatClampNeg 4) 9) (Int32.toNatClampNeg 7) 1))), (h0, .inr (10, [.ref h8, .ref h1, .ref h9, .ref h10, .ref h11, .ref h4, .ref h6, .int 0, .ref h12, .ref h13, .ref h14, .ref h15, .ref h16, .ref h17, .ref h18, .int 0, .int 0, .int 0, .ref h19, .ref h20, .int 0, .int 0, .int 0, .ref h5, .ref h7, .ref h21, .ref h2, .ref h22, .ref h23, .ref h3, .int 0, .ref h24, .int 0, .ref h25])), (h4, .inl (cI, 5, .inl (fun _ => 0))), (h5, .inl (cI, 5, .inl (fun _ => 0))), (h6, .inl (cI, 5, .inl (fun _ => 0))), (h7, .inl (cI, 5, .inl (fun _ => 0)))] := hD
        refine lv_iconst (v := 0) hx hb dX10_before_63 (by decide) ?_
        refine lv_istore_n (lv' := [(2, .int 0), (0, .ref h0), (1, .int 3)]) hx hb dX10_before_64 rfl hl (by decide) rfl (fun ls hl => ?_)
        refine lv_iload_n hx hb dX10_before_65 rfl (lv_at hl 0 rfl) ?_
        refine lv_iload_n hx hb dX10_before_66 rfl (lv_at hl 2 rfl) ?_
        refine lv_icmp_ge (tgt := 229) hx hb dX10_before_67 (by decide) (fun c => absurd c (by decide)) (fun _ => ?_)
        refine lv_iconst (v := 0) hx hb dX10_before_70 (by decide) ?_
        refine lv_istore_n (lv' := [(3, .int 0), (2, .int 0), (0, .ref h0), (1, .int 3)]) hx hb dX10_before_71 rfl hl (by decide) rfl (fun ls hl => ?_)
        refine lv_iload_n hx hb dX10_before_72 rfl (lv_at hl 0 rfl) ?_
        refine lv_aload_n hx hb dX10_before_73 rfl (lv_at hl 2 rfl) ?_
        have hPc := hP.sub (ws' := [(h0, .inr (10, [.ref h8, .ref h1, .ref h9, .ref h10, .ref h11, .ref h4, .ref h6, .int 0, .ref h12, .ref h13, .ref h14, .ref h15, .ref h16, .ref h17, .ref h18, .int 0, .int 0, .int 0, .ref h19, .ref h20, .int 0, .int 0, .int 0, .ref h5, .ref h7, .ref h21, .ref h2, .ref h22, .ref h23, .ref h3, .int 0, .ref h24, .int 0, .ref h25])), (h1, .inl (cI, 9, .inl (upd (upd (upd (fun _ => 0) (Int32.toNatClampNeg 3) 5) (Int32.toNatClampNeg 4) 9) (Int32.toNatClampNeg 7) 1)))]) [4, 3] rfl
        have hDc := hD.sub (ws' := [(h0, .inr (10, [.ref h8, .ref h1, .ref h9, .ref h10, .ref h11, .ref h4, .ref h6, .int 0, .ref h12, .ref h13, .ref h14, .ref h15, .ref h16, .ref h17, .ref h18, .int 0, .int 0, .int 0, .ref h19, .ref h20, .int 0, .int 0, .int 0, .ref h5, .ref h7, .ref h21, .ref h2, .ref h22, .ref h23, .ref h3, .int 0, .ref h24, .int 0, .ref h25])), (h1, .inl (cI, 9, .inl (upd (upd (upd (fun _ => 0) (Int32.toNatClampNeg 3) 5) (Int32.toNatClampNeg 4) 9) (Int32.toNatClampNeg 7) 1)))]) [4, 3] (by decide) rfl
        refine va_calli (va_runV (As := []) (rest := [.int 0]) ⟨hx, hb, hml, hown, hts⟩ (k_X10_many l D cC cI cZ h0 h1 h8 h9 h10 h11 h4 h6 h12 h13 h14 h15 h16 h17 h18 h19 h20 h5 h7 h21 h2 h22 h23 h3 h24 h25 H.size ) (cwV (C := RX10) 0 hts (goodIn_app (goodIn_of _ (by decide +kernel)) gc_k_X10_before_k_X10_many) rfl rfl rfl (by decide +kernel) ⟨(Nat.le_of_ble_eq_true rfl), (Nat.le_of_ble_eq_true rfl)⟩) (kPreV hK hPc hDc (va_recv hK hPc (ci := 10) (q0 := 0) rfl rfl)) rfl rfl hl.1 rfl (lv_room (Nat.le_of_ble_eq_true rfl)) dX10_before_74 ⟨(Nat.le_of_ble_eq_true rfl), (Nat.le_of_ble_eq_true rfl)⟩) hS (fun q _ h => False.elim h) (fun q h => False.elim h) (fun r33 u t H1 locs ht hvm hw hB hz1 hk1 hS => ?_)
        have hP := hP.kept (H1 := H1) (fun k q hk => hk1 q.1 (hP k q hk).lt (fun h => h))
        generalize H1 = H at hP hS ⊢
        have hw : r33 = 1 := hw
        subst hw
        refine lv_icmp_ge (tgt := 175) hx hb dX10_before_77 (by decide) (fun c => absurd c (by decide)) (fun _ => ?_)
        refine lv_iconst (v := 0) hx hb dX10_before_80 (by decide) ?_
        refine lv_istore (lv' := [(4, .int 0), (3, .int 0), (2, .int 0), (0, .ref h0), (1, .int 3)]) hx hb dX10_before_81 hl (by decide) rfl (fun ls hl => ?_)
        refine lv_iload hx hb dX10_before_83 (lv_at hl 0 rfl) ?_
        refine lv_aload_n hx hb dX10_before_85 rfl (lv_at hl 3 rfl) ?_
        refine va_get (D := D) (ci := 10) (v := .ref h1) (C := RX10) (T := TX10) (N := 34) hx hb hts iw_k_X10_before_X10 hown hK hP 4 rfl rfl 1 (by decide) (hts (.fieldLink RX10 13 "TopTurnedModel" "told" "[I") (by decide +kernel)) (fun _ h9 => h9) rfl dX10_before_86 ?_
        refine lv_iconst (v := 0) hx hb dX10_before_89 (by decide) ?_
        refine va_iald (i := 0) hx hb hK hP 3 1 rfl rfl (vp_in_iff.mpr (by decide)) dX10_before_90 ?_
        refine kt_eq (y := 0) (by decide +kernel) ?_
        refine lv_icmp_ge (tgt := 169) hx hb dX10_before_91 (by decide) (fun _ => ?_) (fun c => absurd (by decide) c)
        refine lv_iinc (v := 1) (lv' := [(3, .int 1), (4, .int 0), (2, .int 0), (0, .ref h0), (1, .int 3)]) hx hb dX10_before_169 hl (k := 1) rfl (by decide) (by decide) rfl (fun ls hl => ?_)
        refine lv_goto (tgt := 72) hx hb dX10_before_172 (by decide) ?_
        refine lv_iload_n hx hb dX10_before_72 rfl (lv_at hl 0 rfl) ?_
        refine lv_aload_n hx hb dX10_before_73 rfl (lv_at hl 3 rfl) ?_
        have hPc := hP.sub (ws' := [(h0, .inr (10, [.ref h8, .ref h1, .ref h9, .ref h10, .ref h11, .ref h4, .ref h6, .int 0, .ref h12, .ref h13, .ref h14, .ref h15, .ref h16, .ref h17, .ref h18, .int 0, .int 0, .int 0, .ref h19, .ref h20, .int 0, .int 0, .int 0, .ref h5, .ref h7, .ref h21, .ref h2, .ref h22, .ref h23, .ref h3, .int 0, .ref h24, .int 0, .ref h25])), (h1, .inl (cI, 9, .inl (upd (upd (upd (fun _ => 0) (Int32.toNatClampNeg 3) 5) (Int32.toNatClampNeg 4) 9) (Int32.toNatClampNeg 7) 1)))]) [4, 3] rfl
        have hDc := hD.sub (ws' := [(h0, .inr (10, [.ref h8, .ref h1, .ref h9, .ref h10, .ref h11, .ref h4, .ref h6, .int 0, .ref h12, .ref h13, .ref h14, .ref h15, .ref h16, .ref h17, .ref h18, .int 0, .int 0, .int 0, .ref h19, .ref h20, .int 0, .int 0, .int 0, .ref h5, .ref h7, .ref h21, .ref h2, .ref h22, .ref h23, .ref h3, .int 0, .ref h24, .int 0, .ref h25])), (h1, .inl (cI, 9, .inl (upd (upd (upd (fun _ => 0) (Int32.toNatClampNeg 3) 5) (Int32.toNatClampNeg 4) 9) (Int32.toNatClampNeg 7) 1)))]) [4, 3] (by decide) rfl
        refine va_calli (va_runV (As := []) (rest := [.int 1]) ⟨hx, hb, hml, hown, hts⟩ (k_X10_many l D cC cI cZ h0 h1 h8 h9 h10 h11 h4 h6 h12 h13 h14 h15 h16 h17 h18 h19 h20 h5 h7 h21 h2 h22 h23 h3 h24 h25 H.size ) (cwV (C := RX10) 0 hts (goodIn_app (goodIn_of _ (by decide +kernel)) gc_k_X10_before_k_X10_many) rfl rfl rfl (by decide +kernel) ⟨(Nat.le_of_ble_eq_true rfl), (Nat.le_of_ble_eq_true rfl)⟩) (kPreV hK hPc hDc (va_recv hK hPc (ci := 10) (q0 := 0) rfl rfl)) rfl rfl hl.1 rfl (lv_room (Nat.le_of_ble_eq_true rfl)) dX10_before_74 ⟨(Nat.le_of_ble_eq_true rfl), (Nat.le_of_ble_eq_true rfl)⟩) hS (fun q _ h => False.elim h) (fun q h => False.elim h) (fun r34 u t H1 locs ht hvm hw hB hz1 hk1 hS => ?_)
        have hP := hP.kept (H1 := H1) (fun k q hk => hk1 q.1 (hP k q hk).lt (fun h => h))
        generalize H1 = H at hP hS ⊢
        have hw : r34 = 1 := hw
        subst hw
        refine lv_icmp_ge (tgt := 175) hx hb dX10_before_77 (by decide) (fun _ => ?_) (fun c => absurd (by decide) c)
        refine lv_iconst (v := 0) hx hb dX10_before_175 (by decide) ?_
        refine lv_istore_n (lv' := [(3, .int 0), (4, .int 0), (2, .int 0), (0, .ref h0), (1, .int 3)]) hx hb dX10_before_176 rfl hl (by decide) rfl (fun ls hl => ?_)
        refine lv_iload_n hx hb dX10_before_177 rfl (lv_at hl 0 rfl) ?_
        refine lv_aload_n hx hb dX10_before_178 rfl (lv_at hl 3 rfl) ?_
        have hPc := hP.sub (ws' := [(h0, .inr (10, [.ref h8, .ref h1, .ref h9, .ref h10, .ref h11, .ref h4, .ref h6, .int 0, .ref h12, .ref h13, .ref h14, .ref h15, .ref h16, .ref h17, .ref h18, .int 0, .int 0, .int 0, .ref h19, .ref h20, .int 0, .int 0, .int 0, .ref h5, .ref h7, .ref h21, .ref h2, .ref h22, .ref h23, .ref h3, .int 0, .ref h24, .int 0, .ref h25])), (h1, .inl (cI, 9, .inl (upd (upd (upd (fun _ => 0) (Int32.toNatClampNeg 3) 5) (Int32.toNatClampNeg 4) 9) (Int32.toNatClampNeg 7) 1)))]) [4, 3] rfl
        have hDc := hD.sub (ws' := [(h0, .inr (10, [.ref h8, .ref h1, .ref h9, .ref h10, .ref h11, .ref h4, .ref h6, .int 0, .ref h12, .ref h13, .ref h14, .ref h15, .ref h16, .ref h17, .ref h18, .int 0, .int 0, .int 0, .ref h19, .ref h20, .int 0, .int 0, .int 0, .ref h5, .ref h7, .ref h21, .ref h2, .ref h22, .ref h23, .ref h3, .int 0, .ref h24, .int 0, .ref h25])), (h1, .inl (cI, 9, .inl (upd (upd (upd (fun _ => 0) (Int32.toNatClampNeg 3) 5) (Int32.toNatClampNeg 4) 9) (Int32.toNatClampNeg 7) 1)))]) [4, 3] (by decide) rfl
        refine va_calli (va_runV (As := []) (rest := [.int 0]) ⟨hx, hb, hml, hown, hts⟩ (k_X10_many l D cC cI cZ h0 h1 h8 h9 h10 h11 h4 h6 h12 h13 h14 h15 h16 h17 h18 h19 h20 h5 h7 h21 h2 h22 h23 h3 h24 h25 H.size ) (cwV (C := RX10) 0 hts (goodIn_app (goodIn_of _ (by decide +kernel)) gc_k_X10_before_k_X10_many) rfl rfl rfl (by decide +kernel) ⟨(Nat.le_of_ble_eq_true rfl), (Nat.le_of_ble_eq_true rfl)⟩) (kPreV hK hPc hDc (va_recv hK hPc (ci := 10) (q0 := 0) rfl rfl)) rfl rfl hl.1 rfl (lv_room (Nat.le_of_ble_eq_true rfl)) dX10_before_179 ⟨(Nat.le_of_ble_eq_true rfl), (Nat.le_of_ble_eq_true rfl)⟩) hS (fun q _ h => False.elim h) (fun q h => False.elim h) (fun r35 u t H1 locs ht hvm hw hB hz1 hk1 hS => ?_)
        have hP := hP.kept (H1 := H1) (fun k q hk => hk1 q.1 (hP k q hk).lt (fun h => h))
        generalize H1 = H at hP hS ⊢
        have hw : r35 = 1 := hw
        subst hw
        refine lv_icmp_ge (tgt := 223) hx hb dX10_before_182 (by decide) (fun c => absurd c (by decide)) (fun _ => ?_)
        refine lv_aload_n hx hb dX10_before_185 rfl (lv_at hl 3 rfl) ?_
        refine va_get (D := D) (ci := 10) (v := .ref h2) (C := RX10) (T := TX10) (N := 34) hx hb hts iw_k_X10_before_X10 hown hK hP 4 rfl rfl 26 (by decide) (hts (.fieldLink RX10 68 "TopTurnedModel" "far" "[I") (by decide +kernel)) (fun _ h9 => h9) rfl dX10_before_186 ?_
        refine lv_iload_n hx hb dX10_before_189 rfl (lv_at hl 0 rfl) ?_
        refine lv_aload_n hx hb dX10_before_190 rfl (lv_at hl 3 rfl) ?_
        refine va_get (D := D) (ci := 10) (v := .ref h3) (C := RX10) (T := TX10) (N := 34) hx hb hts iw_k_X10_before_X10 hown hK hP 4 rfl rfl 29 (by decide) (hts (.fieldLink RX10 77 "TopTurnedModel" "line" "[I") (by decide +kernel)) (fun _ h9 => h9) rfl dX10_before_191 ?_
        refine lv_iload_n hx hb dX10_before_194 rfl (lv_at hl 0 rfl) ?_
        refine va_iald (i := 0) hx hb hK hP 1 1 rfl rfl (vp_in_iff.mpr (by decide)) dX10_before_195 ?_
        refine kt_eq (y := 0) (by decide +kernel) ?_
        refine lv_iload_n hx hb dX10_before_196 rfl (lv_at hl 2 rfl) ?_
        refine lv_iconst (v := 1) hx hb dX10_before_197 (by decide) ?_
        refine lv_iadd hx hb dX10_before_198 ?_
        refine kt_eq (y := 1) (by decide +kernel) ?_
        refine lv_icmp_ne (tgt := 208) hx hb dX10_before_199 (by decide) (fun _ => ?_) (fun c => absurd c (by decide))
        refine lv_iconst (v := (-1)) hx hb dX10_before_208 (by decide) ?_
        refine va_iast (i := 0) (x := (-1)) hx hb hK hP hD hS 0 1 rfl rfl (vp_in_iff.mpr (by decide)) dX10_before_209 (fun H locs hP hD hS => ?_)
        have hP : va_P D vwCl [(h2, .inl (cI, 3840, .inl (upd (upd (upd (fun _ => 0) (Int32.toNatClampNeg 0) (-1)) (Int32.toNatClampNeg 0) 0) (Int32.toNatClampNeg 0) (-1)))), (h3, .inl (cI, 3840, .inl (fun _ => 0))), (h8, .inl (cI, 7, .inl (fun _ => 0))), (h1, .inl (cI, 9, .inl (upd (upd (upd (fun _ => 0) (Int32.toNatClampNeg 3) 5) (Int32.toNatClampNeg 4) 9) (Int32.toNatClampNeg 7) 1))), (h0, .inr (10, [.ref h8, .ref h1, .ref h9, .ref h10, .ref h11, .ref h4, .ref h6, .int 0, .ref h12, .ref h13, .ref h14, .ref h15, .ref h16, .ref h17, .ref h18, .int 0, .int 0, .int 0, .ref h19, .ref h20, .int 0, .int 0, .int 0, .ref h5, .ref h7, .ref h21, .ref h2, .ref h22, .ref h23, .ref h3, .int 0, .ref h24, .int 0, .ref h25])), (h4, .inl (cI, 5, .inl (fun _ => 0))), (h5, .inl (cI, 5, .inl (fun _ => 0))), (h6, .inl (cI, 5, .inl (fun _ => 0))), (h7, .inl (cI, 5, .inl (fun _ => 0)))] H := hP
        have hD : va_D A [(h2, .inl (cI, 3840, .inl (upd (upd (upd (fun _ => 0) (Int32.toNatClampNeg 0) (-1)) (Int32.toNatClampNeg 0) 0) (Int32.toNatClampNeg 0) (-1)))), (h3, .inl (cI, 3840, .inl (fun _ => 0))), (h8, .inl (cI, 7, .inl (fun _ => 0))), (h1, .inl (cI, 9, .inl (upd (upd (upd (fun _ => 0) (Int32.toNatClampNeg 3) 5) (Int32.toNatClampNeg 4) 9) (Int32.toNatClampNeg 7) 1))), (h0, .inr (10, [.ref h8, .ref h1, .ref h9, .ref h10, .ref h11, .ref h4, .ref h6, .int 0, .ref h12, .ref h13, .ref h14, .ref h15, .ref h16, .ref h17, .ref h18, .int 0, .int 0, .int 0, .ref h19, .ref h20, .int 0, .int 0, .int 0, .ref h5, .ref h7, .ref h21, .ref h2, .ref h22, .ref h23, .ref h3, .int 0, .ref h24, .int 0, .ref h25])), (h4, .inl (cI, 5, .inl (fun _ => 0))), (h5, .inl (cI, 5, .inl (fun _ => 0))), (h6, .inl (cI, 5, .inl (fun _ => 0))), (h7, .inl (cI, 5, .inl (fun _ => 0)))] := hD
        refine lv_aload_n hx hb dX10_before_210 rfl (lv_at hl 3 rfl) ?_
        refine va_get (D := D) (ci := 10) (v := .ref h3) (C := RX10) (T := TX10) (N := 34) hx hb hts iw_k_X10_before_X10 hown hK hP 4 rfl rfl 29 (by decide) (hts (.fieldLink RX10 77 "TopTurnedModel" "line" "[I") (by decide +kernel)) (fun _ h9 => h9) rfl dX10_before_211 ?_
        refine lv_iload_n hx hb dX10_before_214 rfl (lv_at hl 0 rfl) ?_
        refine lv_iconst (v := 0) hx hb dX10_before_215 (by decide) ?_
        refine kn_iastS (i := 0) (x := 0) hx hb hK hP hD hS 1 1 rfl rfl (vp_in_iff.mpr (by decide)) (by decide +kernel) dX10_before_216 (fun H locs hP hD hS => ?_)
        refine lv_iinc (v := 1) (lv' := [(3, .int 1), (4, .int 0), (2, .int 0), (0, .ref h0), (1, .int 3)]) hx hb dX10_before_217 hl (k := 0) rfl (by decide) (by decide) rfl (fun ls hl => ?_)
        refine lv_goto (tgt := 177) hx hb dX10_before_220 (by decide) ?_
        refine lv_iload_n hx hb dX10_before_177 rfl (lv_at hl 0 rfl) ?_
        refine lv_aload_n hx hb dX10_before_178 rfl (lv_at hl 3 rfl) ?_
        have hPc := hP.sub (ws' := [(h0, .inr (10, [.ref h8, .ref h1, .ref h9, .ref h10, .ref h11, .ref h4, .ref h6, .int 0, .ref h12, .ref h13, .ref h14, .ref h15, .ref h16, .ref h17, .ref h18, .int 0, .int 0, .int 0, .ref h19, .ref h20, .int 0, .int 0, .int 0, .ref h5, .ref h7, .ref h21, .ref h2, .ref h22, .ref h23, .ref h3, .int 0, .ref h24, .int 0, .ref h25])), (h1, .inl (cI, 9, .inl (upd (upd (upd (fun _ => 0) (Int32.toNatClampNeg 3) 5) (Int32.toNatClampNeg 4) 9) (Int32.toNatClampNeg 7) 1)))]) [4, 3] rfl
        have hDc := hD.sub (ws' := [(h0, .inr (10, [.ref h8, .ref h1, .ref h9, .ref h10, .ref h11, .ref h4, .ref h6, .int 0, .ref h12, .ref h13, .ref h14, .ref h15, .ref h16, .ref h17, .ref h18, .int 0, .int 0, .int 0, .ref h19, .ref h20, .int 0, .int 0, .int 0, .ref h5, .ref h7, .ref h21, .ref h2, .ref h22, .ref h23, .ref h3, .int 0, .ref h24, .int 0, .ref h25])), (h1, .inl (cI, 9, .inl (upd (upd (upd (fun _ => 0) (Int32.toNatClampNeg 3) 5) (Int32.toNatClampNeg 4) 9) (Int32.toNatClampNeg 7) 1)))]) [4, 3] (by decide) rfl
        refine va_calli (va_runV (As := []) (rest := [.int 1]) ⟨hx, hb, hml, hown, hts⟩ (k_X10_many l D cC cI cZ h0 h1 h8 h9 h10 h11 h4 h6 h12 h13 h14 h15 h16 h17 h18 h19 h20 h5 h7 h21 h2 h22 h23 h3 h24 h25 H.size ) (cwV (C := RX10) 0 hts (goodIn_app (goodIn_of _ (by decide +kernel)) gc_k_X10_before_k_X10_many) rfl rfl rfl (by decide +kernel) ⟨(Nat.le_of_ble_eq_true rfl), (Nat.le_of_ble_eq_true rfl)⟩) (kPreV hK hPc hDc (va_recv hK hPc (ci := 10) (q0 := 0) rfl rfl)) rfl rfl hl.1 rfl (lv_room (Nat.le_of_ble_eq_true rfl)) dX10_before_179 ⟨(Nat.le_of_ble_eq_true rfl), (Nat.le_of_ble_eq_true rfl)⟩) hS (fun q _ h => False.elim h) (fun q h => False.elim h) (fun r36 u t H1 locs ht hvm hw hB hz1 hk1 hS => ?_)
        have hP := hP.kept (H1 := H1) (fun k q hk => hk1 q.1 (hP k q hk).lt (fun h => h))
        generalize H1 = H at hP hS ⊢
        have hw : r36 = 1 := hw
        subst hw
        refine lv_icmp_ge (tgt := 223) hx hb dX10_before_182 (by decide) (fun _ => ?_) (fun c => absurd (by decide) c)
        refine lv_iinc (v := 1) (lv' := [(2, .int 1), (3, .int 1), (4, .int 0), (0, .ref h0), (1, .int 3)]) hx hb dX10_before_223 hl (k := 2) rfl (by decide) (by decide) rfl (fun ls hl => ?_)
        refine lv_goto (tgt := 65) hx hb dX10_before_226 (by decide) ?_
        refine lv_iload_n hx hb dX10_before_65 rfl (lv_at hl 0 rfl) ?_
        refine lv_iload_n hx hb dX10_before_66 rfl (lv_at hl 4 rfl) ?_
        refine lv_icmp_ge (tgt := 229) hx hb dX10_before_67 (by decide) (fun c => absurd c (by decide)) (fun _ => ?_)
        refine lv_iconst (v := 0) hx hb dX10_before_70 (by decide) ?_
        refine lv_istore_n (lv' := [(3, .int 0), (2, .int 1), (4, .int 0), (0, .ref h0), (1, .int 3)]) hx hb dX10_before_71 rfl hl (by decide) rfl (fun ls hl => ?_)
        refine lv_iload_n hx hb dX10_before_72 rfl (lv_at hl 0 rfl) ?_
        refine lv_aload_n hx hb dX10_before_73 rfl (lv_at hl 3 rfl) ?_
        have hPc := hP.sub (ws' := [(h0, .inr (10, [.ref h8, .ref h1, .ref h9, .ref h10, .ref h11, .ref h4, .ref h6, .int 0, .ref h12, .ref h13, .ref h14, .ref h15, .ref h16, .ref h17, .ref h18, .int 0, .int 0, .int 0, .ref h19, .ref h20, .int 0, .int 0, .int 0, .ref h5, .ref h7, .ref h21, .ref h2, .ref h22, .ref h23, .ref h3, .int 0, .ref h24, .int 0, .ref h25])), (h1, .inl (cI, 9, .inl (upd (upd (upd (fun _ => 0) (Int32.toNatClampNeg 3) 5) (Int32.toNatClampNeg 4) 9) (Int32.toNatClampNeg 7) 1)))]) [4, 3] rfl
        have hDc := hD.sub (ws' := [(h0, .inr (10, [.ref h8, .ref h1, .ref h9, .ref h10, .ref h11, .ref h4, .ref h6, .int 0, .ref h12, .ref h13, .ref h14, .ref h15, .ref h16, .ref h17, .ref h18, .int 0, .int 0, .int 0, .ref h19, .ref h20, .int 0, .int 0, .int 0, .ref h5, .ref h7, .ref h21, .ref h2, .ref h22, .ref h23, .ref h3, .int 0, .ref h24, .int 0, .ref h25])), (h1, .inl (cI, 9, .inl (upd (upd (upd (fun _ => 0) (Int32.toNatClampNeg 3) 5) (Int32.toNatClampNeg 4) 9) (Int32.toNatClampNeg 7) 1)))]) [4, 3] (by decide) rfl
        refine va_calli (va_runV (As := []) (rest := [.int 0]) ⟨hx, hb, hml, hown, hts⟩ (k_X10_many l D cC cI cZ h0 h1 h8 h9 h10 h11 h4 h6 h12 h13 h14 h15 h16 h17 h18 h19 h20 h5 h7 h21 h2 h22 h23 h3 h24 h25 H.size ) (cwV (C := RX10) 0 hts (goodIn_app (goodIn_of _ (by decide +kernel)) gc_k_X10_before_k_X10_many) rfl rfl rfl (by decide +kernel) ⟨(Nat.le_of_ble_eq_true rfl), (Nat.le_of_ble_eq_true rfl)⟩) (kPreV hK hPc hDc (va_recv hK hPc (ci := 10) (q0 := 0) rfl rfl)) rfl rfl hl.1 rfl (lv_room (Nat.le_of_ble_eq_true rfl)) dX10_before_74 ⟨(Nat.le_of_ble_eq_true rfl), (Nat.le_of_ble_eq_true rfl)⟩) hS (fun q _ h => False.elim h) (fun q h => False.elim h) (fun r37 u t H1 locs ht hvm hw hB hz1 hk1 hS => ?_)
        have hP := hP.kept (H1 := H1) (fun k q hk => hk1 q.1 (hP k q hk).lt (fun h => h))
        generalize H1 = H at hP hS ⊢
        have hw : r37 = 1 := hw
        subst hw
        refine lv_icmp_ge (tgt := 175) hx hb dX10_before_77 (by decide) (fun c => absurd c (by decide)) (fun _ => ?_)
        refine lv_iconst (v := 0) hx hb dX10_before_80 (by decide) ?_
        refine lv_istore (lv' := [(4, .int 0), (3, .int 0), (2, .int 1), (0, .ref h0), (1, .int 3)]) hx hb dX10_before_81 hl (by decide) rfl (fun ls hl => ?_)
        refine lv_iload hx hb dX10_before_83 (lv_at hl 0 rfl) ?_
        refine lv_aload_n hx hb dX10_before_85 rfl (lv_at hl 3 rfl) ?_
        refine va_get (D := D) (ci := 10) (v := .ref h1) (C := RX10) (T := TX10) (N := 34) hx hb hts iw_k_X10_before_X10 hown hK hP 4 rfl rfl 1 (by decide) (hts (.fieldLink RX10 13 "TopTurnedModel" "told" "[I") (by decide +kernel)) (fun _ h9 => h9) rfl dX10_before_86 ?_
        refine lv_iconst (v := 0) hx hb dX10_before_89 (by decide) ?_
        refine va_iald (i := 0) hx hb hK hP 3 1 rfl rfl (vp_in_iff.mpr (by decide)) dX10_before_90 ?_
        refine kt_eq (y := 0) (by decide +kernel) ?_
        refine lv_icmp_ge (tgt := 169) hx hb dX10_before_91 (by decide) (fun _ => ?_) (fun c => absurd (by decide) c)
        refine lv_iinc (v := 1) (lv' := [(3, .int 1), (4, .int 0), (2, .int 1), (0, .ref h0), (1, .int 3)]) hx hb dX10_before_169 hl (k := 1) rfl (by decide) (by decide) rfl (fun ls hl => ?_)
        refine lv_goto (tgt := 72) hx hb dX10_before_172 (by decide) ?_
        refine lv_iload_n hx hb dX10_before_72 rfl (lv_at hl 0 rfl) ?_
        refine lv_aload_n hx hb dX10_before_73 rfl (lv_at hl 3 rfl) ?_
        have hPc := hP.sub (ws' := [(h0, .inr (10, [.ref h8, .ref h1, .ref h9, .ref h10, .ref h11, .ref h4, .ref h6, .int 0, .ref h12, .ref h13, .ref h14, .ref h15, .ref h16, .ref h17, .ref h18, .int 0, .int 0, .int 0, .ref h19, .ref h20, .int 0, .int 0, .int 0, .ref h5, .ref h7, .ref h21, .ref h2, .ref h22, .ref h23, .ref h3, .int 0, .ref h24, .int 0, .ref h25])), (h1, .inl (cI, 9, .inl (upd (upd (upd (fun _ => 0) (Int32.toNatClampNeg 3) 5) (Int32.toNatClampNeg 4) 9) (Int32.toNatClampNeg 7) 1)))]) [4, 3] rfl
        have hDc := hD.sub (ws' := [(h0, .inr (10, [.ref h8, .ref h1, .ref h9, .ref h10, .ref h11, .ref h4, .ref h6, .int 0, .ref h12, .ref h13, .ref h14, .ref h15, .ref h16, .ref h17, .ref h18, .int 0, .int 0, .int 0, .ref h19, .ref h20, .int 0, .int 0, .int 0, .ref h5, .ref h7, .ref h21, .ref h2, .ref h22, .ref h23, .ref h3, .int 0, .ref h24, .int 0, .ref h25])), (h1, .inl (cI, 9, .inl (upd (upd (upd (fun _ => 0) (Int32.toNatClampNeg 3) 5) (Int32.toNatClampNeg 4) 9) (Int32.toNatClampNeg 7) 1)))]) [4, 3] (by decide) rfl
        refine va_calli (va_runV (As := []) (rest := [.int 1]) ⟨hx, hb, hml, hown, hts⟩ (k_X10_many l D cC cI cZ h0 h1 h8 h9 h10 h11 h4 h6 h12 h13 h14 h15 h16 h17 h18 h19 h20 h5 h7 h21 h2 h22 h23 h3 h24 h25 H.size ) (cwV (C := RX10) 0 hts (goodIn_app (goodIn_of _ (by decide +kernel)) gc_k_X10_before_k_X10_many) rfl rfl rfl (by decide +kernel) ⟨(Nat.le_of_ble_eq_true rfl), (Nat.le_of_ble_eq_true rfl)⟩) (kPreV hK hPc hDc (va_recv hK hPc (ci := 10) (q0 := 0) rfl rfl)) rfl rfl hl.1 rfl (lv_room (Nat.le_of_ble_eq_true rfl)) dX10_before_74 ⟨(Nat.le_of_ble_eq_true rfl), (Nat.le_of_ble_eq_true rfl)⟩) hS (fun q _ h => False.elim h) (fun q h => False.elim h) (fun r38 u t H1 locs ht hvm hw hB hz1 hk1 hS => ?_)
        have hP := hP.kept (H1 := H1) (fun k q hk => hk1 q.1 (hP k q hk).lt (fun h => h))
        generalize H1 = H at hP hS ⊢
        have hw : r38 = 1 := hw
        subst hw
        refine lv_icmp_ge (tgt := 175) hx hb dX10_before_77 (by decide) (fun _ => ?_) (fun c => absurd (by decide) c)
        refine lv_iconst (v := 0) hx hb dX10_before_175 (by decide) ?_
        refine lv_istore_n (lv' := [(3, .int 0), (4, .int 0), (2, .int 1), (0, .ref h0), (1, .int 3)]) hx hb dX10_before_176 rfl hl (by decide) rfl (fun ls hl => ?_)
        refine lv_iload_n hx hb dX10_before_177 rfl (lv_at hl 0 rfl) ?_
        refine lv_aload_n hx hb dX10_before_178 rfl (lv_at hl 3 rfl) ?_
        have hPc := hP.sub (ws' := [(h0, .inr (10, [.ref h8, .ref h1, .ref h9, .ref h10, .ref h11, .ref h4, .ref h6, .int 0, .ref h12, .ref h13, .ref h14, .ref h15, .ref h16, .ref h17, .ref h18, .int 0, .int 0, .int 0, .ref h19, .ref h20, .int 0, .int 0, .int 0, .ref h5, .ref h7, .ref h21, .ref h2, .ref h22, .ref h23, .ref h3, .int 0, .ref h24, .int 0, .ref h25])), (h1, .inl (cI, 9, .inl (upd (upd (upd (fun _ => 0) (Int32.toNatClampNeg 3) 5) (Int32.toNatClampNeg 4) 9) (Int32.toNatClampNeg 7) 1)))]) [4, 3] rfl
        have hDc := hD.sub (ws' := [(h0, .inr (10, [.ref h8, .ref h1, .ref h9, .ref h10, .ref h11, .ref h4, .ref h6, .int 0, .ref h12, .ref h13, .ref h14, .ref h15, .ref h16, .ref h17, .ref h18, .int 0, .int 0, .int 0, .ref h19, .ref h20, .int 0, .int 0, .int 0, .ref h5, .ref h7, .ref h21, .ref h2, .ref h22, .ref h23, .ref h3, .int 0, .ref h24, .int 0, .ref h25])), (h1, .inl (cI, 9, .inl (upd (upd (upd (fun _ => 0) (Int32.toNatClampNeg 3) 5) (Int32.toNatClampNeg 4) 9) (Int32.toNatClampNeg 7) 1)))]) [4, 3] (by decide) rfl
        refine va_calli (va_runV (As := []) (rest := [.int 0]) ⟨hx, hb, hml, hown, hts⟩ (k_X10_many l D cC cI cZ h0 h1 h8 h9 h10 h11 h4 h6 h12 h13 h14 h15 h16 h17 h18 h19 h20 h5 h7 h21 h2 h22 h23 h3 h24 h25 H.size ) (cwV (C := RX10) 0 hts (goodIn_app (goodIn_of _ (by decide +kernel)) gc_k_X10_before_k_X10_many) rfl rfl rfl (by decide +kernel) ⟨(Nat.le_of_ble_eq_true rfl), (Nat.le_of_ble_eq_true rfl)⟩) (kPreV hK hPc hDc (va_recv hK hPc (ci := 10) (q0 := 0) rfl rfl)) rfl rfl hl.1 rfl (lv_room (Nat.le_of_ble_eq_true rfl)) dX10_before_179 ⟨(Nat.le_of_ble_eq_true rfl), (Nat.le_of_ble_eq_true rfl)⟩) hS (fun q _ h => False.elim h) (fun q h => False.elim h) (fun r39 u t H1 locs ht hvm hw hB hz1 hk1 hS => ?_)
        have hP := hP.kept (H1 := H1) (fun k q hk => hk1 q.1 (hP k q hk).lt (fun h => h))
        generalize H1 = H at hP hS ⊢
        have hw : r39 = 1 := hw
        subst hw
        refine lv_icmp_ge (tgt := 223) hx hb dX10_before_182 (by decide) (fun c => absurd c (by decide)) (fun _ => ?_)
        refine lv_aload_n hx hb dX10_before_185 rfl (lv_at hl 3 rfl) ?_
        refine va_get (D := D) (ci := 10) (v := .ref h2) (C := RX10) (T := TX10) (N := 34) hx hb hts iw_k_X10_before_X10 hown hK hP 4 rfl rfl 26 (by decide) (hts (.fieldLink RX10 68 "TopTurnedModel" "far" "[I") (by decide +kernel)) (fun _ h9 => h9) rfl dX10_before_186 ?_
        refine lv_iload_n hx hb dX10_before_189 rfl (lv_at hl 0 rfl) ?_
        refine lv_aload_n hx hb dX10_before_190 rfl (lv_at hl 3 rfl) ?_
        refine va_get (D := D) (ci := 10) (v := .ref h3) (C := RX10) (T := TX10) (N := 34) hx hb hts iw_k_X10_before_X10 hown hK hP 4 rfl rfl 29 (by decide) (hts (.fieldLink RX10 77 "TopTurnedModel" "line" "[I") (by decide +kernel)) (fun _ h9 => h9) rfl dX10_before_191 ?_
        refine lv_iload_n hx hb dX10_before_194 rfl (lv_at hl 0 rfl) ?_
        refine va_iald (i := 0) hx hb hK hP 1 1 rfl rfl (vp_in_iff.mpr (by decide)) dX10_before_195 ?_
        refine kt_eq (y := 0) (by decide +kernel) ?_
        refine lv_iload_n hx hb dX10_before_196 rfl (lv_at hl 2 rfl) ?_
        refine lv_iconst (v := 1) hx hb dX10_before_197 (by decide) ?_
        refine lv_iadd hx hb dX10_before_198 ?_
        refine kt_eq (y := 2) (by decide +kernel) ?_
        refine lv_icmp_ne (tgt := 208) hx hb dX10_before_199 (by decide) (fun _ => ?_) (fun c => absurd c (by decide))
        refine lv_iconst (v := (-1)) hx hb dX10_before_208 (by decide) ?_
        refine kn_iastS (i := 0) (x := (-1)) hx hb hK hP hD hS 0 1 rfl rfl (vp_in_iff.mpr (by decide)) (by decide +kernel) dX10_before_209 (fun H locs hP hD hS => ?_)
        refine lv_aload_n hx hb dX10_before_210 rfl (lv_at hl 3 rfl) ?_
        refine va_get (D := D) (ci := 10) (v := .ref h3) (C := RX10) (T := TX10) (N := 34) hx hb hts iw_k_X10_before_X10 hown hK hP 4 rfl rfl 29 (by decide) (hts (.fieldLink RX10 77 "TopTurnedModel" "line" "[I") (by decide +kernel)) (fun _ h9 => h9) rfl dX10_before_211 ?_
        refine lv_iload_n hx hb dX10_before_214 rfl (lv_at hl 0 rfl) ?_
        refine lv_iconst (v := 0) hx hb dX10_before_215 (by decide) ?_
        refine kn_iastS (i := 0) (x := 0) hx hb hK hP hD hS 1 1 rfl rfl (vp_in_iff.mpr (by decide)) (by decide +kernel) dX10_before_216 (fun H locs hP hD hS => ?_)
        refine lv_iinc (v := 1) (lv' := [(3, .int 1), (4, .int 0), (2, .int 1), (0, .ref h0), (1, .int 3)]) hx hb dX10_before_217 hl (k := 0) rfl (by decide) (by decide) rfl (fun ls hl => ?_)
        refine lv_goto (tgt := 177) hx hb dX10_before_220 (by decide) ?_
        refine lv_iload_n hx hb dX10_before_177 rfl (lv_at hl 0 rfl) ?_
        refine lv_aload_n hx hb dX10_before_178 rfl (lv_at hl 3 rfl) ?_
        have hPc := hP.sub (ws' := [(h0, .inr (10, [.ref h8, .ref h1, .ref h9, .ref h10, .ref h11, .ref h4, .ref h6, .int 0, .ref h12, .ref h13, .ref h14, .ref h15, .ref h16, .ref h17, .ref h18, .int 0, .int 0, .int 0, .ref h19, .ref h20, .int 0, .int 0, .int 0, .ref h5, .ref h7, .ref h21, .ref h2, .ref h22, .ref h23, .ref h3, .int 0, .ref h24, .int 0, .ref h25])), (h1, .inl (cI, 9, .inl (upd (upd (upd (fun _ => 0) (Int32.toNatClampNeg 3) 5) (Int32.toNatClampNeg 4) 9) (Int32.toNatClampNeg 7) 1)))]) [4, 3] rfl
        have hDc := hD.sub (ws' := [(h0, .inr (10, [.ref h8, .ref h1, .ref h9, .ref h10, .ref h11, .ref h4, .ref h6, .int 0, .ref h12, .ref h13, .ref h14, .ref h15, .ref h16, .ref h17, .ref h18, .int 0, .int 0, .int 0, .ref h19, .ref h20, .int 0, .int 0, .int 0, .ref h5, .ref h7, .ref h21, .ref h2, .ref h22, .ref h23, .ref h3, .int 0, .ref h24, .int 0, .ref h25])), (h1, .inl (cI, 9, .inl (upd (upd (upd (fun _ => 0) (Int32.toNatClampNeg 3) 5) (Int32.toNatClampNeg 4) 9) (Int32.toNatClampNeg 7) 1)))]) [4, 3] (by decide) rfl
        refine va_calli (va_runV (As := []) (rest := [.int 1]) ⟨hx, hb, hml, hown, hts⟩ (k_X10_many l D cC cI cZ h0 h1 h8 h9 h10 h11 h4 h6 h12 h13 h14 h15 h16 h17 h18 h19 h20 h5 h7 h21 h2 h22 h23 h3 h24 h25 H.size ) (cwV (C := RX10) 0 hts (goodIn_app (goodIn_of _ (by decide +kernel)) gc_k_X10_before_k_X10_many) rfl rfl rfl (by decide +kernel) ⟨(Nat.le_of_ble_eq_true rfl), (Nat.le_of_ble_eq_true rfl)⟩) (kPreV hK hPc hDc (va_recv hK hPc (ci := 10) (q0 := 0) rfl rfl)) rfl rfl hl.1 rfl (lv_room (Nat.le_of_ble_eq_true rfl)) dX10_before_179 ⟨(Nat.le_of_ble_eq_true rfl), (Nat.le_of_ble_eq_true rfl)⟩) hS (fun q _ h => False.elim h) (fun q h => False.elim h) (fun r40 u t H1 locs ht hvm hw hB hz1 hk1 hS => ?_)
        have hP := hP.kept (H1 := H1) (fun k q hk => hk1 q.1 (hP k q hk).lt (fun h => h))
        generalize H1 = H at hP hS ⊢
        have hw : r40 = 1 := hw
        subst hw
        refine lv_icmp_ge (tgt := 223) hx hb dX10_before_182 (by decide) (fun _ => ?_) (fun c => absurd (by decide) c)
        refine lv_iinc (v := 2) (lv' := [(2, .int 2), (3, .int 1), (4, .int 0), (0, .ref h0), (1, .int 3)]) hx hb dX10_before_223 hl (k := 2) rfl (by decide) (by decide) rfl (fun ls hl => ?_)
        refine lv_goto (tgt := 65) hx hb dX10_before_226 (by decide) ?_
        refine lv_iload_n hx hb dX10_before_65 rfl (lv_at hl 0 rfl) ?_
        refine lv_iload_n hx hb dX10_before_66 rfl (lv_at hl 4 rfl) ?_
        refine lv_icmp_ge (tgt := 229) hx hb dX10_before_67 (by decide) (fun c => absurd c (by decide)) (fun _ => ?_)
        refine lv_iconst (v := 0) hx hb dX10_before_70 (by decide) ?_
        refine lv_istore_n (lv' := [(3, .int 0), (2, .int 2), (4, .int 0), (0, .ref h0), (1, .int 3)]) hx hb dX10_before_71 rfl hl (by decide) rfl (fun ls hl => ?_)
        refine lv_iload_n hx hb dX10_before_72 rfl (lv_at hl 0 rfl) ?_
        refine lv_aload_n hx hb dX10_before_73 rfl (lv_at hl 3 rfl) ?_
        have hPc := hP.sub (ws' := [(h0, .inr (10, [.ref h8, .ref h1, .ref h9, .ref h10, .ref h11, .ref h4, .ref h6, .int 0, .ref h12, .ref h13, .ref h14, .ref h15, .ref h16, .ref h17, .ref h18, .int 0, .int 0, .int 0, .ref h19, .ref h20, .int 0, .int 0, .int 0, .ref h5, .ref h7, .ref h21, .ref h2, .ref h22, .ref h23, .ref h3, .int 0, .ref h24, .int 0, .ref h25])), (h1, .inl (cI, 9, .inl (upd (upd (upd (fun _ => 0) (Int32.toNatClampNeg 3) 5) (Int32.toNatClampNeg 4) 9) (Int32.toNatClampNeg 7) 1)))]) [4, 3] rfl
        have hDc := hD.sub (ws' := [(h0, .inr (10, [.ref h8, .ref h1, .ref h9, .ref h10, .ref h11, .ref h4, .ref h6, .int 0, .ref h12, .ref h13, .ref h14, .ref h15, .ref h16, .ref h17, .ref h18, .int 0, .int 0, .int 0, .ref h19, .ref h20, .int 0, .int 0, .int 0, .ref h5, .ref h7, .ref h21, .ref h2, .ref h22, .ref h23, .ref h3, .int 0, .ref h24, .int 0, .ref h25])), (h1, .inl (cI, 9, .inl (upd (upd (upd (fun _ => 0) (Int32.toNatClampNeg 3) 5) (Int32.toNatClampNeg 4) 9) (Int32.toNatClampNeg 7) 1)))]) [4, 3] (by decide) rfl
        refine va_calli (va_runV (As := []) (rest := [.int 0]) ⟨hx, hb, hml, hown, hts⟩ (k_X10_many l D cC cI cZ h0 h1 h8 h9 h10 h11 h4 h6 h12 h13 h14 h15 h16 h17 h18 h19 h20 h5 h7 h21 h2 h22 h23 h3 h24 h25 H.size ) (cwV (C := RX10) 0 hts (goodIn_app (goodIn_of _ (by decide +kernel)) gc_k_X10_before_k_X10_many) rfl rfl rfl (by decide +kernel) ⟨(Nat.le_of_ble_eq_true rfl), (Nat.le_of_ble_eq_true rfl)⟩) (kPreV hK hPc hDc (va_recv hK hPc (ci := 10) (q0 := 0) rfl rfl)) rfl rfl hl.1 rfl (lv_room (Nat.le_of_ble_eq_true rfl)) dX10_before_74 ⟨(Nat.le_of_ble_eq_true rfl), (Nat.le_of_ble_eq_true rfl)⟩) hS (fun q _ h => False.elim h) (fun q h => False.elim h) (fun r41 u t H1 locs ht hvm hw hB hz1 hk1 hS => ?_)
        have hP := hP.kept (H1 := H1) (fun k q hk => hk1 q.1 (hP k q hk).lt (fun h => h))
        generalize H1 = H at hP hS ⊢
        have hw : r41 = 1 := hw
        subst hw
        refine lv_icmp_ge (tgt := 175) hx hb dX10_before_77 (by decide) (fun c => absurd c (by decide)) (fun _ => ?_)
        refine lv_iconst (v := 0) hx hb dX10_before_80 (by decide) ?_
        refine lv_istore (lv' := [(4, .int 0), (3, .int 0), (2, .int 2), (0, .ref h0), (1, .int 3)]) hx hb dX10_before_81 hl (by decide) rfl (fun ls hl => ?_)
        refine lv_iload hx hb dX10_before_83 (lv_at hl 0 rfl) ?_
        refine lv_aload_n hx hb dX10_before_85 rfl (lv_at hl 3 rfl) ?_
        refine va_get (D := D) (ci := 10) (v := .ref h1) (C := RX10) (T := TX10) (N := 34) hx hb hts iw_k_X10_before_X10 hown hK hP 4 rfl rfl 1 (by decide) (hts (.fieldLink RX10 13 "TopTurnedModel" "told" "[I") (by decide +kernel)) (fun _ h9 => h9) rfl dX10_before_86 ?_
        refine lv_iconst (v := 0) hx hb dX10_before_89 (by decide) ?_
        refine va_iald (i := 0) hx hb hK hP 3 1 rfl rfl (vp_in_iff.mpr (by decide)) dX10_before_90 ?_
        refine kt_eq (y := 0) (by decide +kernel) ?_
        refine lv_icmp_ge (tgt := 169) hx hb dX10_before_91 (by decide) (fun _ => ?_) (fun c => absurd (by decide) c)
        refine lv_iinc (v := 1) (lv' := [(3, .int 1), (4, .int 0), (2, .int 2), (0, .ref h0), (1, .int 3)]) hx hb dX10_before_169 hl (k := 1) rfl (by decide) (by decide) rfl (fun ls hl => ?_)
        refine lv_goto (tgt := 72) hx hb dX10_before_172 (by decide) ?_
        refine lv_iload_n hx hb dX10_before_72 rfl (lv_at hl 0 rfl) ?_
        refine lv_aload_n hx hb dX10_before_73 rfl (lv_at hl 3 rfl) ?_
        have hPc := hP.sub (ws' := [(h0, .inr (10, [.ref h8, .ref h1, .ref h9, .ref h10, .ref h11, .ref h4, .ref h6, .int 0, .ref h12, .ref h13, .ref h14, .ref h15, .ref h16, .ref h17, .ref h18, .int 0, .int 0, .int 0, .ref h19, .ref h20, .int 0, .int 0, .int 0, .ref h5, .ref h7, .ref h21, .ref h2, .ref h22, .ref h23, .ref h3, .int 0, .ref h24, .int 0, .ref h25])), (h1, .inl (cI, 9, .inl (upd (upd (upd (fun _ => 0) (Int32.toNatClampNeg 3) 5) (Int32.toNatClampNeg 4) 9) (Int32.toNatClampNeg 7) 1)))]) [4, 3] rfl
        have hDc := hD.sub (ws' := [(h0, .inr (10, [.ref h8, .ref h1, .ref h9, .ref h10, .ref h11, .ref h4, .ref h6, .int 0, .ref h12, .ref h13, .ref h14, .ref h15, .ref h16, .ref h17, .ref h18, .int 0, .int 0, .int 0, .ref h19, .ref h20, .int 0, .int 0, .int 0, .ref h5, .ref h7, .ref h21, .ref h2, .ref h22, .ref h23, .ref h3, .int 0, .ref h24, .int 0, .ref h25])), (h1, .inl (cI, 9, .inl (upd (upd (upd (fun _ => 0) (Int32.toNatClampNeg 3) 5) (Int32.toNatClampNeg 4) 9) (Int32.toNatClampNeg 7) 1)))]) [4, 3] (by decide) rfl
        refine va_calli (va_runV (As := []) (rest := [.int 1]) ⟨hx, hb, hml, hown, hts⟩ (k_X10_many l D cC cI cZ h0 h1 h8 h9 h10 h11 h4 h6 h12 h13 h14 h15 h16 h17 h18 h19 h20 h5 h7 h21 h2 h22 h23 h3 h24 h25 H.size ) (cwV (C := RX10) 0 hts (goodIn_app (goodIn_of _ (by decide +kernel)) gc_k_X10_before_k_X10_many) rfl rfl rfl (by decide +kernel) ⟨(Nat.le_of_ble_eq_true rfl), (Nat.le_of_ble_eq_true rfl)⟩) (kPreV hK hPc hDc (va_recv hK hPc (ci := 10) (q0 := 0) rfl rfl)) rfl rfl hl.1 rfl (lv_room (Nat.le_of_ble_eq_true rfl)) dX10_before_74 ⟨(Nat.le_of_ble_eq_true rfl), (Nat.le_of_ble_eq_true rfl)⟩) hS (fun q _ h => False.elim h) (fun q h => False.elim h) (fun r42 u t H1 locs ht hvm hw hB hz1 hk1 hS => ?_)
        have hP := hP.kept (H1 := H1) (fun k q hk => hk1 q.1 (hP k q hk).lt (fun h => h))
        generalize H1 = H at hP hS ⊢
        have hw : r42 = 1 := hw
        subst hw
        refine lv_icmp_ge (tgt := 175) hx hb dX10_before_77 (by decide) (fun _ => ?_) (fun c => absurd (by decide) c)
        refine lv_iconst (v := 0) hx hb dX10_before_175 (by decide) ?_
        refine lv_istore_n (lv' := [(3, .int 0), (4, .int 0), (2, .int 2), (0, .ref h0), (1, .int 3)]) hx hb dX10_before_176 rfl hl (by decide) rfl (fun ls hl => ?_)
        refine lv_iload_n hx hb dX10_before_177 rfl (lv_at hl 0 rfl) ?_
        refine lv_aload_n hx hb dX10_before_178 rfl (lv_at hl 3 rfl) ?_
        have hPc := hP.sub (ws' := [(h0, .inr (10, [.ref h8, .ref h1, .ref h9, .ref h10, .ref h11, .ref h4, .ref h6, .int 0, .ref h12, .ref h13, .ref h14, .ref h15, .ref h16, .ref h17, .ref h18, .int 0, .int 0, .int 0, .ref h19, .ref h20, .int 0, .int 0, .int 0, .ref h5, .ref h7, .ref h21, .ref h2, .ref h22, .ref h23, .ref h3, .int 0, .ref h24, .int 0, .ref h25])), (h1, .inl (cI, 9, .inl (upd (upd (upd (fun _ => 0) (Int32.toNatClampNeg 3) 5) (Int32.toNatClampNeg 4) 9) (Int32.toNatClampNeg 7) 1)))]) [4, 3] rfl
        have hDc := hD.sub (ws' := [(h0, .inr (10, [.ref h8, .ref h1, .ref h9, .ref h10, .ref h11, .ref h4, .ref h6, .int 0, .ref h12, .ref h13, .ref h14, .ref h15, .ref h16, .ref h17, .ref h18, .int 0, .int 0, .int 0, .ref h19, .ref h20, .int 0, .int 0, .int 0, .ref h5, .ref h7, .ref h21, .ref h2, .ref h22, .ref h23, .ref h3, .int 0, .ref h24, .int 0, .ref h25])), (h1, .inl (cI, 9, .inl (upd (upd (upd (fun _ => 0) (Int32.toNatClampNeg 3) 5) (Int32.toNatClampNeg 4) 9) (Int32.toNatClampNeg 7) 1)))]) [4, 3] (by decide) rfl
        refine va_calli (va_runV (As := []) (rest := [.int 0]) ⟨hx, hb, hml, hown, hts⟩ (k_X10_many l D cC cI cZ h0 h1 h8 h9 h10 h11 h4 h6 h12 h13 h14 h15 h16 h17 h18 h19 h20 h5 h7 h21 h2 h22 h23 h3 h24 h25 H.size ) (cwV (C := RX10) 0 hts (goodIn_app (goodIn_of _ (by decide +kernel)) gc_k_X10_before_k_X10_many) rfl rfl rfl (by decide +kernel) ⟨(Nat.le_of_ble_eq_true rfl), (Nat.le_of_ble_eq_true rfl)⟩) (kPreV hK hPc hDc (va_recv hK hPc (ci := 10) (q0 := 0) rfl rfl)) rfl rfl hl.1 rfl (lv_room (Nat.le_of_ble_eq_true rfl)) dX10_before_179 ⟨(Nat.le_of_ble_eq_true rfl), (Nat.le_of_ble_eq_true rfl)⟩) hS (fun q _ h => False.elim h) (fun q h => False.elim h) (fun r43 u t H1 locs ht hvm hw hB hz1 hk1 hS => ?_)
        have hP := hP.kept (H1 := H1) (fun k q hk => hk1 q.1 (hP k q hk).lt (fun h => h))
        generalize H1 = H at hP hS ⊢
        have hw : r43 = 1 := hw
        subst hw
        refine lv_icmp_ge (tgt := 223) hx hb dX10_before_182 (by decide) (fun c => absurd c (by decide)) (fun _ => ?_)
        refine lv_aload_n hx hb dX10_before_185 rfl (lv_at hl 3 rfl) ?_
        refine va_get (D := D) (ci := 10) (v := .ref h2) (C := RX10) (T := TX10) (N := 34) hx hb hts iw_k_X10_before_X10 hown hK hP 4 rfl rfl 26 (by decide) (hts (.fieldLink RX10 68 "TopTurnedModel" "far" "[I") (by decide +kernel)) (fun _ h9 => h9) rfl dX10_before_186 ?_
        refine lv_iload_n hx hb dX10_before_189 rfl (lv_at hl 0 rfl) ?_
        refine lv_aload_n hx hb dX10_before_190 rfl (lv_at hl 3 rfl) ?_
        refine va_get (D := D) (ci := 10) (v := .ref h3) (C := RX10) (T := TX10) (N := 34) hx hb hts iw_k_X10_before_X10 hown hK hP 4 rfl rfl 29 (by decide) (hts (.fieldLink RX10 77 "TopTurnedModel" "line" "[I") (by decide +kernel)) (fun _ h9 => h9) rfl dX10_before_191 ?_
        refine lv_iload_n hx hb dX10_before_194 rfl (lv_at hl 0 rfl) ?_
        refine va_iald (i := 0) hx hb hK hP 1 1 rfl rfl (vp_in_iff.mpr (by decide)) dX10_before_195 ?_
        refine kt_eq (y := 0) (by decide +kernel) ?_
        refine lv_iload_n hx hb dX10_before_196 rfl (lv_at hl 2 rfl) ?_
        refine lv_iconst (v := 1) hx hb dX10_before_197 (by decide) ?_
        refine lv_iadd hx hb dX10_before_198 ?_
        refine kt_eq (y := 3) (by decide +kernel) ?_
        refine lv_icmp_ne (tgt := 208) hx hb dX10_before_199 (by decide) (fun _ => ?_) (fun c => absurd c (by decide))
        refine lv_iconst (v := (-1)) hx hb dX10_before_208 (by decide) ?_
        refine kn_iastS (i := 0) (x := (-1)) hx hb hK hP hD hS 0 1 rfl rfl (vp_in_iff.mpr (by decide)) (by decide +kernel) dX10_before_209 (fun H locs hP hD hS => ?_)
        refine lv_aload_n hx hb dX10_before_210 rfl (lv_at hl 3 rfl) ?_
        refine va_get (D := D) (ci := 10) (v := .ref h3) (C := RX10) (T := TX10) (N := 34) hx hb hts iw_k_X10_before_X10 hown hK hP 4 rfl rfl 29 (by decide) (hts (.fieldLink RX10 77 "TopTurnedModel" "line" "[I") (by decide +kernel)) (fun _ h9 => h9) rfl dX10_before_211 ?_
        refine lv_iload_n hx hb dX10_before_214 rfl (lv_at hl 0 rfl) ?_
        refine lv_iconst (v := 0) hx hb dX10_before_215 (by decide) ?_
        refine kn_iastS (i := 0) (x := 0) hx hb hK hP hD hS 1 1 rfl rfl (vp_in_iff.mpr (by decide)) (by decide +kernel) dX10_before_216 (fun H locs hP hD hS => ?_)
        refine lv_iinc (v := 1) (lv' := [(3, .int 1), (4, .int 0), (2, .int 2), (0, .ref h0), (1, .int 3)]) hx hb dX10_before_217 hl (k := 0) rfl (by decide) (by decide) rfl (fun ls hl => ?_)
        refine lv_goto (tgt := 177) hx hb dX10_before_220 (by decide) ?_
        refine lv_iload_n hx hb dX10_before_177 rfl (lv_at hl 0 rfl) ?_
        refine lv_aload_n hx hb dX10_before_178 rfl (lv_at hl 3 rfl) ?_
        have hPc := hP.sub (ws' := [(h0, .inr (10, [.ref h8, .ref h1, .ref h9, .ref h10, .ref h11, .ref h4, .ref h6, .int 0, .ref h12, .ref h13, .ref h14, .ref h15, .ref h16, .ref h17, .ref h18, .int 0, .int 0, .int 0, .ref h19, .ref h20, .int 0, .int 0, .int 0, .ref h5, .ref h7, .ref h21, .ref h2, .ref h22, .ref h23, .ref h3, .int 0, .ref h24, .int 0, .ref h25])), (h1, .inl (cI, 9, .inl (upd (upd (upd (fun _ => 0) (Int32.toNatClampNeg 3) 5) (Int32.toNatClampNeg 4) 9) (Int32.toNatClampNeg 7) 1)))]) [4, 3] rfl
        have hDc := hD.sub (ws' := [(h0, .inr (10, [.ref h8, .ref h1, .ref h9, .ref h10, .ref h11, .ref h4, .ref h6, .int 0, .ref h12, .ref h13, .ref h14, .ref h15, .ref h16, .ref h17, .ref h18, .int 0, .int 0, .int 0, .ref h19, .ref h20, .int 0, .int 0, .int 0, .ref h5, .ref h7, .ref h21, .ref h2, .ref h22, .ref h23, .ref h3, .int 0, .ref h24, .int 0, .ref h25])), (h1, .inl (cI, 9, .inl (upd (upd (upd (fun _ => 0) (Int32.toNatClampNeg 3) 5) (Int32.toNatClampNeg 4) 9) (Int32.toNatClampNeg 7) 1)))]) [4, 3] (by decide) rfl
        refine va_calli (va_runV (As := []) (rest := [.int 1]) ⟨hx, hb, hml, hown, hts⟩ (k_X10_many l D cC cI cZ h0 h1 h8 h9 h10 h11 h4 h6 h12 h13 h14 h15 h16 h17 h18 h19 h20 h5 h7 h21 h2 h22 h23 h3 h24 h25 H.size ) (cwV (C := RX10) 0 hts (goodIn_app (goodIn_of _ (by decide +kernel)) gc_k_X10_before_k_X10_many) rfl rfl rfl (by decide +kernel) ⟨(Nat.le_of_ble_eq_true rfl), (Nat.le_of_ble_eq_true rfl)⟩) (kPreV hK hPc hDc (va_recv hK hPc (ci := 10) (q0 := 0) rfl rfl)) rfl rfl hl.1 rfl (lv_room (Nat.le_of_ble_eq_true rfl)) dX10_before_179 ⟨(Nat.le_of_ble_eq_true rfl), (Nat.le_of_ble_eq_true rfl)⟩) hS (fun q _ h => False.elim h) (fun q h => False.elim h) (fun r44 u t H1 locs ht hvm hw hB hz1 hk1 hS => ?_)
        have hP := hP.kept (H1 := H1) (fun k q hk => hk1 q.1 (hP k q hk).lt (fun h => h))
        generalize H1 = H at hP hS ⊢
        have hw : r44 = 1 := hw
        subst hw
        refine lv_icmp_ge (tgt := 223) hx hb dX10_before_182 (by decide) (fun _ => ?_) (fun c => absurd (by decide) c)
        refine lv_iinc (v := 3) (lv' := [(2, .int 3), (3, .int 1), (4, .int 0), (0, .ref h0), (1, .int 3)]) hx hb dX10_before_223 hl (k := 2) rfl (by decide) (by decide) rfl (fun ls hl => ?_)
        refine lv_goto (tgt := 65) hx hb dX10_before_226 (by decide) ?_
        refine lv_iload_n hx hb dX10_before_65 rfl (lv_at hl 0 rfl) ?_
        refine lv_iload_n hx hb dX10_before_66 rfl (lv_at hl 4 rfl) ?_
        refine lv_icmp_ge (tgt := 229) hx hb dX10_before_67 (by decide) (fun _ => ?_) (fun c => absurd (by decide) c)
        refine lv_iconst (v := 0) hx hb dX10_before_229 (by decide) ?_
        refine lv_istore_n (lv' := [(2, .int 0), (3, .int 1), (4, .int 0), (0, .ref h0), (1, .int 3)]) hx hb dX10_before_230 rfl hl (by decide) rfl (fun ls hl => ?_)
        refine lv_iconst (v := 0) hx hb dX10_before_231 (by decide) ?_
        refine lv_istore_n (lv' := [(3, .int 0), (2, .int 0), (4, .int 0), (0, .ref h0), (1, .int 3)]) hx hb dX10_before_232 rfl hl (by decide) rfl (fun ls hl => ?_)
        refine lv_iload_n hx hb dX10_before_233 rfl (lv_at hl 0 rfl) ?_
        refine lv_aload_n hx hb dX10_before_234 rfl (lv_at hl 3 rfl) ?_
        have hPc := hP.sub (ws' := [(h0, .inr (10, [.ref h8, .ref h1, .ref h9, .ref h10, .ref h11, .ref h4, .ref h6, .int 0, .ref h12, .ref h13, .ref h14, .ref h15, .ref h16, .ref h17, .ref h18, .int 0, .int 0, .int 0, .ref h19, .ref h20, .int 0, .int 0, .int 0, .ref h5, .ref h7, .ref h21, .ref h2, .ref h22, .ref h23, .ref h3, .int 0, .ref h24, .int 0, .ref h25])), (h1, .inl (cI, 9, .inl (upd (upd (upd (fun _ => 0) (Int32.toNatClampNeg 3) 5) (Int32.toNatClampNeg 4) 9) (Int32.toNatClampNeg 7) 1)))]) [4, 3] rfl
        have hDc := hD.sub (ws' := [(h0, .inr (10, [.ref h8, .ref h1, .ref h9, .ref h10, .ref h11, .ref h4, .ref h6, .int 0, .ref h12, .ref h13, .ref h14, .ref h15, .ref h16, .ref h17, .ref h18, .int 0, .int 0, .int 0, .ref h19, .ref h20, .int 0, .int 0, .int 0, .ref h5, .ref h7, .ref h21, .ref h2, .ref h22, .ref h23, .ref h3, .int 0, .ref h24, .int 0, .ref h25])), (h1, .inl (cI, 9, .inl (upd (upd (upd (fun _ => 0) (Int32.toNatClampNeg 3) 5) (Int32.toNatClampNeg 4) 9) (Int32.toNatClampNeg 7) 1)))]) [4, 3] (by decide) rfl
        refine va_calli (va_runV (As := []) (rest := [.int 0]) ⟨hx, hb, hml, hown, hts⟩ (k_X10_many l D cC cI cZ h0 h1 h8 h9 h10 h11 h4 h6 h12 h13 h14 h15 h16 h17 h18 h19 h20 h5 h7 h21 h2 h22 h23 h3 h24 h25 H.size ) (cwV (C := RX10) 0 hts (goodIn_app (goodIn_of _ (by decide +kernel)) gc_k_X10_before_k_X10_many) rfl rfl rfl (by decide +kernel) ⟨(Nat.le_of_ble_eq_true rfl), (Nat.le_of_ble_eq_true rfl)⟩) (kPreV hK hPc hDc (va_recv hK hPc (ci := 10) (q0 := 0) rfl rfl)) rfl rfl hl.1 rfl (lv_room (Nat.le_of_ble_eq_true rfl)) dX10_before_235 ⟨(Nat.le_of_ble_eq_true rfl), (Nat.le_of_ble_eq_true rfl)⟩) hS (fun q _ h => False.elim h) (fun q h => False.elim h) (fun r45 u t H1 locs ht hvm hw hB hz1 hk1 hS => ?_)
        have hP := hP.kept (H1 := H1) (fun k q hk => hk1 q.1 (hP k q hk).lt (fun h => h))
        generalize H1 = H at hP hS ⊢
        have hw : r45 = 1 := hw
        subst hw
        refine lv_icmp_ge (tgt := 265) hx hb dX10_before_238 (by decide) (fun c => absurd c (by decide)) (fun _ => ?_)
        refine lv_iload_n hx hb dX10_before_241 rfl (lv_at hl 1 rfl) ?_
        refine lv_aload_n hx hb dX10_before_242 rfl (lv_at hl 3 rfl) ?_
        refine va_get (D := D) (ci := 10) (v := .ref h2) (C := RX10) (T := TX10) (N := 34) hx hb hts iw_k_X10_before_X10 hown hK hP 4 rfl rfl 26 (by decide) (hts (.fieldLink RX10 68 "TopTurnedModel" "far" "[I") (by decide +kernel)) (fun _ h9 => h9) rfl dX10_before_243 ?_
        refine lv_iload_n hx hb dX10_before_246 rfl (lv_at hl 0 rfl) ?_
        refine va_iald (i := 0) hx hb hK hP 0 1 rfl rfl (vp_in_iff.mpr (by decide)) dX10_before_247 ?_
        refine kt_eq (y := (-1)) (by decide +kernel) ?_
        refine lv_iload_n hx hb dX10_before_248 rfl (lv_at hl 4 rfl) ?_
        refine lv_icmp_ne (tgt := 256) hx hb dX10_before_249 (by decide) (fun _ => ?_) (fun c => absurd c (by decide))
        refine lv_iconst (v := 0) hx hb dX10_before_256 (by decide) ?_
        refine lv_iadd hx hb dX10_before_257 ?_
        refine kt_eq (y := 0) (by decide +kernel) ?_
        refine lv_istore_n (lv' := [(2, .int 0), (3, .int 0), (4, .int 0), (0, .ref h0), (1, .int 3)]) hx hb dX10_before_258 rfl hl (by decide) rfl (fun ls hl => ?_)
        refine lv_iinc (v := 1) (lv' := [(3, .int 1), (2, .int 0), (4, .int 0), (0, .ref h0), (1, .int 3)]) hx hb dX10_before_259 hl (k := 1) rfl (by decide) (by decide) rfl (fun ls hl => ?_)
        refine lv_goto (tgt := 233) hx hb dX10_before_262 (by decide) ?_
        refine lv_iload_n hx hb dX10_before_233 rfl (lv_at hl 0 rfl) ?_
        refine lv_aload_n hx hb dX10_before_234 rfl (lv_at hl 3 rfl) ?_
        have hPc := hP.sub (ws' := [(h0, .inr (10, [.ref h8, .ref h1, .ref h9, .ref h10, .ref h11, .ref h4, .ref h6, .int 0, .ref h12, .ref h13, .ref h14, .ref h15, .ref h16, .ref h17, .ref h18, .int 0, .int 0, .int 0, .ref h19, .ref h20, .int 0, .int 0, .int 0, .ref h5, .ref h7, .ref h21, .ref h2, .ref h22, .ref h23, .ref h3, .int 0, .ref h24, .int 0, .ref h25])), (h1, .inl (cI, 9, .inl (upd (upd (upd (fun _ => 0) (Int32.toNatClampNeg 3) 5) (Int32.toNatClampNeg 4) 9) (Int32.toNatClampNeg 7) 1)))]) [4, 3] rfl
        have hDc := hD.sub (ws' := [(h0, .inr (10, [.ref h8, .ref h1, .ref h9, .ref h10, .ref h11, .ref h4, .ref h6, .int 0, .ref h12, .ref h13, .ref h14, .ref h15, .ref h16, .ref h17, .ref h18, .int 0, .int 0, .int 0, .ref h19, .ref h20, .int 0, .int 0, .int 0, .ref h5, .ref h7, .ref h21, .ref h2, .ref h22, .ref h23, .ref h3, .int 0, .ref h24, .int 0, .ref h25])), (h1, .inl (cI, 9, .inl (upd (upd (upd (fun _ => 0) (Int32.toNatClampNeg 3) 5) (Int32.toNatClampNeg 4) 9) (Int32.toNatClampNeg 7) 1)))]) [4, 3] (by decide) rfl
        refine va_calli (va_runV (As := []) (rest := [.int 1]) ⟨hx, hb, hml, hown, hts⟩ (k_X10_many l D cC cI cZ h0 h1 h8 h9 h10 h11 h4 h6 h12 h13 h14 h15 h16 h17 h18 h19 h20 h5 h7 h21 h2 h22 h23 h3 h24 h25 H.size ) (cwV (C := RX10) 0 hts (goodIn_app (goodIn_of _ (by decide +kernel)) gc_k_X10_before_k_X10_many) rfl rfl rfl (by decide +kernel) ⟨(Nat.le_of_ble_eq_true rfl), (Nat.le_of_ble_eq_true rfl)⟩) (kPreV hK hPc hDc (va_recv hK hPc (ci := 10) (q0 := 0) rfl rfl)) rfl rfl hl.1 rfl (lv_room (Nat.le_of_ble_eq_true rfl)) dX10_before_235 ⟨(Nat.le_of_ble_eq_true rfl), (Nat.le_of_ble_eq_true rfl)⟩) hS (fun q _ h => False.elim h) (fun q h => False.elim h) (fun r46 u t H1 locs ht hvm hw hB hz1 hk1 hS => ?_)
        have hP := hP.kept (H1 := H1) (fun k q hk => hk1 q.1 (hP k q hk).lt (fun h => h))
        generalize H1 = H at hP hS ⊢
        have hw : r46 = 1 := hw
        subst hw
        refine lv_icmp_ge (tgt := 265) hx hb dX10_before_238 (by decide) (fun _ => ?_) (fun c => absurd (by decide) c)
        refine lv_iload_n hx hb dX10_before_265 rfl (lv_at hl 1 rfl) ?_
        refine W.widen (k := 0) (n := 0) (Nat.le_of_ble_eq_true rfl) (Nat.le_of_ble_eq_true rfl) ?_
        exact W.iret (v := 0) hx hb hr (fun t ht hW => ⟨⟨0, (), rfl, (by decide), trivial⟩, hS.F ht⟩) hS.2.2 dX10_before_266
      · refine lv_iconst (v := 0) hx hb dX10_before_23 (by decide) ?_
        refine lv_istore_n (lv' := [(2, .int 0), (0, .ref h0), (1, .int 4)]) hx hb dX10_before_24 rfl hl (by decide) rfl (fun ls hl => ?_)
        refine lv_iload_n hx hb dX10_before_25 rfl (lv_at hl 0 rfl) ?_
        refine lv_aload_n hx hb dX10_before_26 rfl (lv_at hl 1 rfl) ?_
        have hPc := hP.sub (ws' := [(h0, .inr (10, [.ref h8, .ref h1, .ref h9, .ref h10, .ref h11, .ref h4, .ref h6, .int 0, .ref h12, .ref h13, .ref h14, .ref h15, .ref h16, .ref h17, .ref h18, .int 0, .int 0, .int 0, .ref h19, .ref h20, .int 0, .int 0, .int 0, .ref h5, .ref h7, .ref h21, .ref h2, .ref h22, .ref h23, .ref h3, .int 0, .ref h24, .int 0, .ref h25])), (h1, .inl (cI, 9, .inl (upd (upd (upd (fun _ => 0) (Int32.toNatClampNeg 3) 5) (Int32.toNatClampNeg 4) 9) (Int32.toNatClampNeg 7) 1)))]) [0, 1] rfl
        have hDc := hD.sub (ws' := [(h0, .inr (10, [.ref h8, .ref h1, .ref h9, .ref h10, .ref h11, .ref h4, .ref h6, .int 0, .ref h12, .ref h13, .ref h14, .ref h15, .ref h16, .ref h17, .ref h18, .int 0, .int 0, .int 0, .ref h19, .ref h20, .int 0, .int 0, .int 0, .ref h5, .ref h7, .ref h21, .ref h2, .ref h22, .ref h23, .ref h3, .int 0, .ref h24, .int 0, .ref h25])), (h1, .inl (cI, 9, .inl (upd (upd (upd (fun _ => 0) (Int32.toNatClampNeg 3) 5) (Int32.toNatClampNeg 4) 9) (Int32.toNatClampNeg 7) 1)))]) [0, 1] (by decide) rfl
        refine va_calli (va_runV (As := []) (rest := [.int 0]) ⟨hx, hb, hml, hown, hts⟩ (k_X10_many l D cC cI cZ h0 h1 h8 h9 h10 h11 h4 h6 h12 h13 h14 h15 h16 h17 h18 h19 h20 h5 h7 h21 h2 h22 h23 h3 h24 h25 s.heap.size ) (cwV (C := RX10) 0 hts (goodIn_app (goodIn_of _ (by decide +kernel)) gc_k_X10_before_k_X10_many) rfl rfl rfl (by decide +kernel) ⟨(Nat.le_of_ble_eq_true rfl), (Nat.le_of_ble_eq_true rfl)⟩) (kPreV hK hPc hDc (va_recv hK hPc (ci := 10) (q0 := 0) rfl rfl)) rfl rfl hl.1 rfl (lv_room (Nat.le_of_ble_eq_true rfl)) dX10_before_27 ⟨(Nat.le_of_ble_eq_true rfl), (Nat.le_of_ble_eq_true rfl)⟩) hS (fun q _ h => False.elim h) (fun q h => False.elim h) (fun r47 u t H1 locs ht hvm hw hB hz1 hk1 hS => ?_)
        have hP := hP.kept (H1 := H1) (fun k q hk => hk1 q.1 (hP k q hk).lt (fun h => h))
        generalize H1 = H at hP hS ⊢
        have hw : r47 = 1 := hw
        subst hw
        refine lv_icmp_ge (tgt := 53) hx hb dX10_before_30 (by decide) (fun c => absurd c (by decide)) (fun _ => ?_)
        refine lv_aload_n hx hb dX10_before_33 rfl (lv_at hl 1 rfl) ?_
        refine va_get (D := D) (ci := 10) (v := .ref h2) (C := RX10) (T := TX10) (N := 34) hx hb hts iw_k_X10_before_X10 hown hK hP 0 rfl rfl 26 (by decide) (hts (.fieldLink RX10 68 "TopTurnedModel" "far" "[I") (by decide +kernel)) (fun _ h9 => h9) rfl dX10_before_34 ?_
        refine lv_iload_n hx hb dX10_before_37 rfl (lv_at hl 0 rfl) ?_
        refine lv_iconst (v := (-1)) hx hb dX10_before_38 (by decide) ?_
        refine va_iast (i := 0) (x := (-1)) hx hb hK hP hD hS 2 1 rfl rfl (vp_in_iff.mpr (by decide)) dX10_before_39 (fun H locs hP hD hS => ?_)
        have hP : va_P D vwCl [(h0, .inr (10, [.ref h8, .ref h1, .ref h9, .ref h10, .ref h11, .ref h4, .ref h6, .int 0, .ref h12, .ref h13, .ref h14, .ref h15, .ref h16, .ref h17, .ref h18, .int 0, .int 0, .int 0, .ref h19, .ref h20, .int 0, .int 0, .int 0, .ref h5, .ref h7, .ref h21, .ref h2, .ref h22, .ref h23, .ref h3, .int 0, .ref h24, .int 0, .ref h25])), (h1, .inl (cI, 9, .inl (upd (upd (upd (fun _ => 0) (Int32.toNatClampNeg 3) 5) (Int32.toNatClampNeg 4) 9) (Int32.toNatClampNeg 7) 1))), (h2, .inl (cI, 3840, .inl (upd (fun _ => 0) (Int32.toNatClampNeg 0) (-1)))), (h3, .inl (cI, 3840, .inl (fun _ => 0))), (h4, .inl (cI, 5, .inl (fun _ => 0))), (h5, .inl (cI, 5, .inl (fun _ => 0))), (h6, .inl (cI, 5, .inl (fun _ => 0))), (h7, .inl (cI, 5, .inl (fun _ => 0))), (h8, .inl (cI, 7, .inl (fun _ => 0)))] H := hP
        have hD : va_D A [(h0, .inr (10, [.ref h8, .ref h1, .ref h9, .ref h10, .ref h11, .ref h4, .ref h6, .int 0, .ref h12, .ref h13, .ref h14, .ref h15, .ref h16, .ref h17, .ref h18, .int 0, .int 0, .int 0, .ref h19, .ref h20, .int 0, .int 0, .int 0, .ref h5, .ref h7, .ref h21, .ref h2, .ref h22, .ref h23, .ref h3, .int 0, .ref h24, .int 0, .ref h25])), (h1, .inl (cI, 9, .inl (upd (upd (upd (fun _ => 0) (Int32.toNatClampNeg 3) 5) (Int32.toNatClampNeg 4) 9) (Int32.toNatClampNeg 7) 1))), (h2, .inl (cI, 3840, .inl (upd (fun _ => 0) (Int32.toNatClampNeg 0) (-1)))), (h3, .inl (cI, 3840, .inl (fun _ => 0))), (h4, .inl (cI, 5, .inl (fun _ => 0))), (h5, .inl (cI, 5, .inl (fun _ => 0))), (h6, .inl (cI, 5, .inl (fun _ => 0))), (h7, .inl (cI, 5, .inl (fun _ => 0))), (h8, .inl (cI, 7, .inl (fun _ => 0)))] := hD
        refine lv_aload_n hx hb dX10_before_40 rfl (lv_at hl 1 rfl) ?_
        refine va_get (D := D) (ci := 10) (v := .ref h3) (C := RX10) (T := TX10) (N := 34) hx hb hts iw_k_X10_before_X10 hown hK hP 0 rfl rfl 29 (by decide) (hts (.fieldLink RX10 77 "TopTurnedModel" "line" "[I") (by decide +kernel)) (fun _ h9 => h9) rfl dX10_before_41 ?_
        refine lv_iload_n hx hb dX10_before_44 rfl (lv_at hl 0 rfl) ?_
        refine lv_iconst (v := 0) hx hb dX10_before_45 (by decide) ?_
        refine kn_iastS (i := 0) (x := 0) hx hb hK hP hD hS 3 1 rfl rfl (vp_in_iff.mpr (by decide)) (by decide +kernel) dX10_before_46 (fun H locs hP hD hS => ?_)
        refine lv_iinc (v := 1) (lv' := [(2, .int 1), (0, .ref h0), (1, .int 4)]) hx hb dX10_before_47 hl (k := 0) rfl (by decide) (by decide) rfl (fun ls hl => ?_)
        refine lv_goto (tgt := 25) hx hb dX10_before_50 (by decide) ?_
        refine lv_iload_n hx hb dX10_before_25 rfl (lv_at hl 0 rfl) ?_
        refine lv_aload_n hx hb dX10_before_26 rfl (lv_at hl 1 rfl) ?_
        have hPc := hP.sub (ws' := [(h0, .inr (10, [.ref h8, .ref h1, .ref h9, .ref h10, .ref h11, .ref h4, .ref h6, .int 0, .ref h12, .ref h13, .ref h14, .ref h15, .ref h16, .ref h17, .ref h18, .int 0, .int 0, .int 0, .ref h19, .ref h20, .int 0, .int 0, .int 0, .ref h5, .ref h7, .ref h21, .ref h2, .ref h22, .ref h23, .ref h3, .int 0, .ref h24, .int 0, .ref h25])), (h1, .inl (cI, 9, .inl (upd (upd (upd (fun _ => 0) (Int32.toNatClampNeg 3) 5) (Int32.toNatClampNeg 4) 9) (Int32.toNatClampNeg 7) 1)))]) [0, 1] rfl
        have hDc := hD.sub (ws' := [(h0, .inr (10, [.ref h8, .ref h1, .ref h9, .ref h10, .ref h11, .ref h4, .ref h6, .int 0, .ref h12, .ref h13, .ref h14, .ref h15, .ref h16, .ref h17, .ref h18, .int 0, .int 0, .int 0, .ref h19, .ref h20, .int 0, .int 0, .int 0, .ref h5, .ref h7, .ref h21, .ref h2, .ref h22, .ref h23, .ref h3, .int 0, .ref h24, .int 0, .ref h25])), (h1, .inl (cI, 9, .inl (upd (upd (upd (fun _ => 0) (Int32.toNatClampNeg 3) 5) (Int32.toNatClampNeg 4) 9) (Int32.toNatClampNeg 7) 1)))]) [0, 1] (by decide) rfl
        refine va_calli (va_runV (As := []) (rest := [.int 1]) ⟨hx, hb, hml, hown, hts⟩ (k_X10_many l D cC cI cZ h0 h1 h8 h9 h10 h11 h4 h6 h12 h13 h14 h15 h16 h17 h18 h19 h20 h5 h7 h21 h2 h22 h23 h3 h24 h25 H.size ) (cwV (C := RX10) 0 hts (goodIn_app (goodIn_of _ (by decide +kernel)) gc_k_X10_before_k_X10_many) rfl rfl rfl (by decide +kernel) ⟨(Nat.le_of_ble_eq_true rfl), (Nat.le_of_ble_eq_true rfl)⟩) (kPreV hK hPc hDc (va_recv hK hPc (ci := 10) (q0 := 0) rfl rfl)) rfl rfl hl.1 rfl (lv_room (Nat.le_of_ble_eq_true rfl)) dX10_before_27 ⟨(Nat.le_of_ble_eq_true rfl), (Nat.le_of_ble_eq_true rfl)⟩) hS (fun q _ h => False.elim h) (fun q h => False.elim h) (fun r48 u t H1 locs ht hvm hw hB hz1 hk1 hS => ?_)
        have hP := hP.kept (H1 := H1) (fun k q hk => hk1 q.1 (hP k q hk).lt (fun h => h))
        generalize H1 = H at hP hS ⊢
        have hw : r48 = 1 := hw
        subst hw
        refine lv_icmp_ge (tgt := 53) hx hb dX10_before_30 (by decide) (fun _ => ?_) (fun c => absurd (by decide) c)
        refine lv_aload_n hx hb dX10_before_53 rfl (lv_at hl 1 rfl) ?_
        refine va_get (D := D) (ci := 10) (v := .ref h2) (C := RX10) (T := TX10) (N := 34) hx hb hts iw_k_X10_before_X10 hown hK hP 0 rfl rfl 26 (by decide) (hts (.fieldLink RX10 68 "TopTurnedModel" "far" "[I") (by decide +kernel)) (fun _ h9 => h9) rfl dX10_before_54 ?_
        refine lv_aload_n hx hb dX10_before_57 rfl (lv_at hl 1 rfl) ?_
        have hPc := hP.sub (ws' := [(h0, .inr (10, [.ref h8, .ref h1, .ref h9, .ref h10, .ref h11, .ref h4, .ref h6, .int 0, .ref h12, .ref h13, .ref h14, .ref h15, .ref h16, .ref h17, .ref h18, .int 0, .int 0, .int 0, .ref h19, .ref h20, .int 0, .int 0, .int 0, .ref h5, .ref h7, .ref h21, .ref h2, .ref h22, .ref h23, .ref h3, .int 0, .ref h24, .int 0, .ref h25])), (h4, .inl (cI, 5, .inl (fun _ => 0))), (h5, .inl (cI, 5, .inl (fun _ => 0))), (h6, .inl (cI, 5, .inl (fun _ => 0))), (h7, .inl (cI, 5, .inl (fun _ => 0))), (h1, .inl (cI, 9, .inl (upd (upd (upd (fun _ => 0) (Int32.toNatClampNeg 3) 5) (Int32.toNatClampNeg 4) 9) (Int32.toNatClampNeg 7) 1)))]) [0, 4, 5, 6, 7, 1] rfl
        have hDc := hD.sub (ws' := [(h0, .inr (10, [.ref h8, .ref h1, .ref h9, .ref h10, .ref h11, .ref h4, .ref h6, .int 0, .ref h12, .ref h13, .ref h14, .ref h15, .ref h16, .ref h17, .ref h18, .int 0, .int 0, .int 0, .ref h19, .ref h20, .int 0, .int 0, .int 0, .ref h5, .ref h7, .ref h21, .ref h2, .ref h22, .ref h23, .ref h3, .int 0, .ref h24, .int 0, .ref h25])), (h4, .inl (cI, 5, .inl (fun _ => 0))), (h5, .inl (cI, 5, .inl (fun _ => 0))), (h6, .inl (cI, 5, .inl (fun _ => 0))), (h7, .inl (cI, 5, .inl (fun _ => 0))), (h1, .inl (cI, 9, .inl (upd (upd (upd (fun _ => 0) (Int32.toNatClampNeg 3) 5) (Int32.toNatClampNeg 4) 9) (Int32.toNatClampNeg 7) 1)))]) [0, 4, 5, 6, 7, 1] (by decide) rfl
        have hFc := va_free (wc := [(h0, .inr (10, [.ref h8, .ref h1, .ref h9, .ref h10, .ref h11, .ref h4, .ref h6, .int 0, .ref h12, .ref h13, .ref h14, .ref h15, .ref h16, .ref h17, .ref h18, .int 0, .int 0, .int 0, .ref h19, .ref h20, .int 0, .int 0, .int 0, .ref h5, .ref h7, .ref h21, .ref h2, .ref h22, .ref h23, .ref h3, .int 0, .ref h24, .int 0, .ref h25])), (h4, .inl (cI, 5, .inl (fun _ => 0))), (h5, .inl (cI, 5, .inl (fun _ => 0))), (h6, .inl (cI, 5, .inl (fun _ => 0))), (h7, .inl (cI, 5, .inl (fun _ => 0))), (h1, .inl (cI, 9, .inl (upd (upd (upd (fun _ => 0) (Int32.toNatClampNeg 3) 5) (Int32.toNatClampNeg 4) 9) (Int32.toNatClampNeg 7) 1)))]) hD hS hA [0, 4, 5, 6, 7, 1] rfl
        refine va_calli (va_runV (As := []) (rest := [.ref h2]) ⟨hx, hb, hml, hown, hts⟩ (k_X10_now_1 l D cC cI cZ h0 h4 h5 h6 h7 h1 h8 h9 h10 h11 h12 h13 h14 h15 h16 h17 h18 h19 h20 h21 h2 h22 h23 h3 h24 h25 H.size ) (cwV (C := RX10) 0 hts (goodIn_app (goodIn_of _ (by decide +kernel)) gc_k_X10_before_k_X10_now_1) rfl rfl rfl (by decide +kernel) ⟨(Nat.le_of_ble_eq_true rfl), (Nat.le_of_ble_eq_true rfl)⟩) (kPreV hK hPc hDc (va_recv hK hPc (ci := 10) (q0 := 0) rfl rfl)) rfl rfl hl.1 rfl (lv_room (Nat.le_of_ble_eq_true rfl)) dX10_before_58 ⟨(Nat.le_of_ble_eq_true rfl), (Nat.le_of_ble_eq_true rfl)⟩) hS (fun q _ h => hFc q h) hFc (fun r49 u t H1 locs ht hvm hw hB hz1 hk1 hS => ?_)
        obtain ⟨hP1, hD1⟩ := hB
        rw [ht] at hP1
        obtain ⟨hP, hD⟩ := va_join (wr := [(h2, .inl (cI, 3840, .inl (upd (fun _ => 0) (Int32.toNatClampNeg 0) (-1)))), (h3, .inl (cI, 3840, .inl (fun _ => 0))), (h8, .inl (cI, 7, .inl (fun _ => 0)))]) (w1 := [(h1, .inl (cI, 9, .inl (upd (upd (upd (fun _ => 0) (Int32.toNatClampNeg 3) 5) (Int32.toNatClampNeg 4) 9) (Int32.toNatClampNeg 7) 1))), (h0, .inr (10, [.ref h8, .ref h1, .ref h9, .ref h10, .ref h11, .ref h4, .ref h6, .int 0, .ref h12, .ref h13, .ref h14, .ref h15, .ref h16, .ref h17, .ref h18, .int 0, .int 0, .int 0, .ref h19, .ref h20, .int 0, .int 0, .int 0, .ref h5, .ref h7, .ref h21, .ref h2, .ref h22, .ref h23, .ref h3, .int 0, .ref h24, .int 0, .ref h25])), (h4, .inl (cI, 5, .inl (fun _ => 0))), (h5, .inl (cI, 5, .inl (fun _ => 0))), (h6, .inl (cI, 5, .inl (fun _ => 0))), (h7, .inl (cI, 5, .inl (fun _ => 0)))]) hP hD [0, 4, 5, 6, 7, 1] [2, 3, 8] rfl rfl (by decide) (by decide) hk1 hFc hP1 hD1
        generalize H1 = H at hP hS ⊢
        have hP : va_P D vwCl [(h2, .inl (cI, 3840, .inl (upd (fun _ => 0) (Int32.toNatClampNeg 0) (-1)))), (h3, .inl (cI, 3840, .inl (fun _ => 0))), (h8, .inl (cI, 7, .inl (fun _ => 0))), (h1, .inl (cI, 9, .inl (upd (upd (upd (fun _ => 0) (Int32.toNatClampNeg 3) 5) (Int32.toNatClampNeg 4) 9) (Int32.toNatClampNeg 7) 1))), (h0, .inr (10, [.ref h8, .ref h1, .ref h9, .ref h10, .ref h11, .ref h4, .ref h6, .int 0, .ref h12, .ref h13, .ref h14, .ref h15, .ref h16, .ref h17, .ref h18, .int 0, .int 0, .int 0, .ref h19, .ref h20, .int 0, .int 0, .int 0, .ref h5, .ref h7, .ref h21, .ref h2, .ref h22, .ref h23, .ref h3, .int 0, .ref h24, .int 0, .ref h25])), (h4, .inl (cI, 5, .inl (fun _ => 0))), (h5, .inl (cI, 5, .inl (fun _ => 0))), (h6, .inl (cI, 5, .inl (fun _ => 0))), (h7, .inl (cI, 5, .inl (fun _ => 0)))] H := hP
        have hD : va_D A [(h2, .inl (cI, 3840, .inl (upd (fun _ => 0) (Int32.toNatClampNeg 0) (-1)))), (h3, .inl (cI, 3840, .inl (fun _ => 0))), (h8, .inl (cI, 7, .inl (fun _ => 0))), (h1, .inl (cI, 9, .inl (upd (upd (upd (fun _ => 0) (Int32.toNatClampNeg 3) 5) (Int32.toNatClampNeg 4) 9) (Int32.toNatClampNeg 7) 1))), (h0, .inr (10, [.ref h8, .ref h1, .ref h9, .ref h10, .ref h11, .ref h4, .ref h6, .int 0, .ref h12, .ref h13, .ref h14, .ref h15, .ref h16, .ref h17, .ref h18, .int 0, .int 0, .int 0, .ref h19, .ref h20, .int 0, .int 0, .int 0, .ref h5, .ref h7, .ref h21, .ref h2, .ref h22, .ref h23, .ref h3, .int 0, .ref h24, .int 0, .ref h25])), (h4, .inl (cI, 5, .inl (fun _ => 0))), (h5, .inl (cI, 5, .inl (fun _ => 0))), (h6, .inl (cI, 5, .inl (fun _ => 0))), (h7, .inl (cI, 5, .inl (fun _ => 0)))] := hD
        have hw : r49 = 0 := hw
        subst hw
        refine lv_iconst (v := 0) hx hb dX10_before_61 (by decide) ?_
        refine va_iast (i := 0) (x := 0) hx hb hK hP hD hS 0 1 rfl rfl (vp_in_iff.mpr (by decide)) dX10_before_62 (fun H locs hP hD hS => ?_)
        have hP : va_P D vwCl [(h2, .inl (cI, 3840, .inl (upd (upd (fun _ => 0) (Int32.toNatClampNeg 0) (-1)) (Int32.toNatClampNeg 0) 0))), (h3, .inl (cI, 3840, .inl (fun _ => 0))), (h8, .inl (cI, 7, .inl (fun _ => 0))), (h1, .inl (cI, 9, .inl (upd (upd (upd (fun _ => 0) (Int32.toNatClampNeg 3) 5) (Int32.toNatClampNeg 4) 9) (Int32.toNatClampNeg 7) 1))), (h0, .inr (10, [.ref h8, .ref h1, .ref h9, .ref h10, .ref h11, .ref h4, .ref h6, .int 0, .ref h12, .ref h13, .ref h14, .ref h15, .ref h16, .ref h17, .ref h18, .int 0, .int 0, .int 0, .ref h19, .ref h20, .int 0, .int 0, .int 0, .ref h5, .ref h7, .ref h21, .ref h2, .ref h22, .ref h23, .ref h3, .int 0, .ref h24, .int 0, .ref h25])), (h4, .inl (cI, 5, .inl (fun _ => 0))), (h5, .inl (cI, 5, .inl (fun _ => 0))), (h6, .inl (cI, 5, .inl (fun _ => 0))), (h7, .inl (cI, 5, .inl (fun _ => 0)))] H := hP
        have hD : va_D A [(h2, .inl (cI, 3840, .inl (upd (upd (fun _ => 0) (Int32.toNatClampNeg 0) (-1)) (Int32.toNatClampNeg 0) 0))), (h3, .inl (cI, 3840, .inl (fun _ => 0))), (h8, .inl (cI, 7, .inl (fun _ => 0))), (h1, .inl (cI, 9, .inl (upd (upd (upd (fun _ => 0) (Int32.toNatClampNeg 3) 5) (Int32.toNatClampNeg 4) 9) (Int32.toNatClampNeg 7) 1))), (h0, .inr (10, [.ref h8, .ref h1, .ref h9, .ref h10, .ref h11, .ref h4, .ref h6, .int 0, .ref h12, .ref h13, .ref h14, .ref h15, .ref h16, .ref h17, .ref h18, .int 0, .int 0, .int 0, .ref h19, .ref h20, .int 0, .int 0, .int 0, .ref h5, .ref h7, .ref h21, .ref h2, .ref h22, .ref h23, .ref h3, .int 0, .ref h24, .int 0, .ref h25])), (h4, .inl (cI, 5, .inl (fun _ => 0))), (h5, .inl (cI, 5, .inl (fun _ => 0))), (h6, .inl (cI, 5, .inl (fun _ => 0))), (h7, .inl (cI, 5, .inl (fun _ => 0)))] := hD
        refine lv_iconst (v := 0) hx hb dX10_before_63 (by decide) ?_
        refine lv_istore_n (lv' := [(2, .int 0), (0, .ref h0), (1, .int 4)]) hx hb dX10_before_64 rfl hl (by decide) rfl (fun ls hl => ?_)
        refine lv_iload_n hx hb dX10_before_65 rfl (lv_at hl 0 rfl) ?_
        refine lv_iload_n hx hb dX10_before_66 rfl (lv_at hl 2 rfl) ?_
        refine lv_icmp_ge (tgt := 229) hx hb dX10_before_67 (by decide) (fun c => absurd c (by decide)) (fun _ => ?_)
        refine lv_iconst (v := 0) hx hb dX10_before_70 (by decide) ?_
        refine lv_istore_n (lv' := [(3, .int 0), (2, .int 0), (0, .ref h0), (1, .int 4)]) hx hb dX10_before_71 rfl hl (by decide) rfl (fun ls hl => ?_)
        refine lv_iload_n hx hb dX10_before_72 rfl (lv_at hl 0 rfl) ?_
        refine lv_aload_n hx hb dX10_before_73 rfl (lv_at hl 2 rfl) ?_
        have hPc := hP.sub (ws' := [(h0, .inr (10, [.ref h8, .ref h1, .ref h9, .ref h10, .ref h11, .ref h4, .ref h6, .int 0, .ref h12, .ref h13, .ref h14, .ref h15, .ref h16, .ref h17, .ref h18, .int 0, .int 0, .int 0, .ref h19, .ref h20, .int 0, .int 0, .int 0, .ref h5, .ref h7, .ref h21, .ref h2, .ref h22, .ref h23, .ref h3, .int 0, .ref h24, .int 0, .ref h25])), (h1, .inl (cI, 9, .inl (upd (upd (upd (fun _ => 0) (Int32.toNatClampNeg 3) 5) (Int32.toNatClampNeg 4) 9) (Int32.toNatClampNeg 7) 1)))]) [4, 3] rfl
        have hDc := hD.sub (ws' := [(h0, .inr (10, [.ref h8, .ref h1, .ref h9, .ref h10, .ref h11, .ref h4, .ref h6, .int 0, .ref h12, .ref h13, .ref h14, .ref h15, .ref h16, .ref h17, .ref h18, .int 0, .int 0, .int 0, .ref h19, .ref h20, .int 0, .int 0, .int 0, .ref h5, .ref h7, .ref h21, .ref h2, .ref h22, .ref h23, .ref h3, .int 0, .ref h24, .int 0, .ref h25])), (h1, .inl (cI, 9, .inl (upd (upd (upd (fun _ => 0) (Int32.toNatClampNeg 3) 5) (Int32.toNatClampNeg 4) 9) (Int32.toNatClampNeg 7) 1)))]) [4, 3] (by decide) rfl
        refine va_calli (va_runV (As := []) (rest := [.int 0]) ⟨hx, hb, hml, hown, hts⟩ (k_X10_many l D cC cI cZ h0 h1 h8 h9 h10 h11 h4 h6 h12 h13 h14 h15 h16 h17 h18 h19 h20 h5 h7 h21 h2 h22 h23 h3 h24 h25 H.size ) (cwV (C := RX10) 0 hts (goodIn_app (goodIn_of _ (by decide +kernel)) gc_k_X10_before_k_X10_many) rfl rfl rfl (by decide +kernel) ⟨(Nat.le_of_ble_eq_true rfl), (Nat.le_of_ble_eq_true rfl)⟩) (kPreV hK hPc hDc (va_recv hK hPc (ci := 10) (q0 := 0) rfl rfl)) rfl rfl hl.1 rfl (lv_room (Nat.le_of_ble_eq_true rfl)) dX10_before_74 ⟨(Nat.le_of_ble_eq_true rfl), (Nat.le_of_ble_eq_true rfl)⟩) hS (fun q _ h => False.elim h) (fun q h => False.elim h) (fun r50 u t H1 locs ht hvm hw hB hz1 hk1 hS => ?_)
        have hP := hP.kept (H1 := H1) (fun k q hk => hk1 q.1 (hP k q hk).lt (fun h => h))
        generalize H1 = H at hP hS ⊢
        have hw : r50 = 1 := hw
        subst hw
        refine lv_icmp_ge (tgt := 175) hx hb dX10_before_77 (by decide) (fun c => absurd c (by decide)) (fun _ => ?_)
        refine lv_iconst (v := 0) hx hb dX10_before_80 (by decide) ?_
        refine lv_istore (lv' := [(4, .int 0), (3, .int 0), (2, .int 0), (0, .ref h0), (1, .int 4)]) hx hb dX10_before_81 hl (by decide) rfl (fun ls hl => ?_)
        refine lv_iload hx hb dX10_before_83 (lv_at hl 0 rfl) ?_
        refine lv_aload_n hx hb dX10_before_85 rfl (lv_at hl 3 rfl) ?_
        refine va_get (D := D) (ci := 10) (v := .ref h1) (C := RX10) (T := TX10) (N := 34) hx hb hts iw_k_X10_before_X10 hown hK hP 4 rfl rfl 1 (by decide) (hts (.fieldLink RX10 13 "TopTurnedModel" "told" "[I") (by decide +kernel)) (fun _ h9 => h9) rfl dX10_before_86 ?_
        refine lv_iconst (v := 0) hx hb dX10_before_89 (by decide) ?_
        refine va_iald (i := 0) hx hb hK hP 3 1 rfl rfl (vp_in_iff.mpr (by decide)) dX10_before_90 ?_
        refine kt_eq (y := 0) (by decide +kernel) ?_
        refine lv_icmp_ge (tgt := 169) hx hb dX10_before_91 (by decide) (fun _ => ?_) (fun c => absurd (by decide) c)
        refine lv_iinc (v := 1) (lv' := [(3, .int 1), (4, .int 0), (2, .int 0), (0, .ref h0), (1, .int 4)]) hx hb dX10_before_169 hl (k := 1) rfl (by decide) (by decide) rfl (fun ls hl => ?_)
        refine lv_goto (tgt := 72) hx hb dX10_before_172 (by decide) ?_
        refine lv_iload_n hx hb dX10_before_72 rfl (lv_at hl 0 rfl) ?_
        refine lv_aload_n hx hb dX10_before_73 rfl (lv_at hl 3 rfl) ?_
        have hPc := hP.sub (ws' := [(h0, .inr (10, [.ref h8, .ref h1, .ref h9, .ref h10, .ref h11, .ref h4, .ref h6, .int 0, .ref h12, .ref h13, .ref h14, .ref h15, .ref h16, .ref h17, .ref h18, .int 0, .int 0, .int 0, .ref h19, .ref h20, .int 0, .int 0, .int 0, .ref h5, .ref h7, .ref h21, .ref h2, .ref h22, .ref h23, .ref h3, .int 0, .ref h24, .int 0, .ref h25])), (h1, .inl (cI, 9, .inl (upd (upd (upd (fun _ => 0) (Int32.toNatClampNeg 3) 5) (Int32.toNatClampNeg 4) 9) (Int32.toNatClampNeg 7) 1)))]) [4, 3] rfl
        have hDc := hD.sub (ws' := [(h0, .inr (10, [.ref h8, .ref h1, .ref h9, .ref h10, .ref h11, .ref h4, .ref h6, .int 0, .ref h12, .ref h13, .ref h14, .ref h15, .ref h16, .ref h17, .ref h18, .int 0, .int 0, .int 0, .ref h19, .ref h20, .int 0, .int 0, .int 0, .ref h5, .ref h7, .ref h21, .ref h2, .ref h22, .ref h23, .ref h3, .int 0, .ref h24, .int 0, .ref h25])), (h1, .inl (cI, 9, .inl (upd (upd (upd (fun _ => 0) (Int32.toNatClampNeg 3) 5) (Int32.toNatClampNeg 4) 9) (Int32.toNatClampNeg 7) 1)))]) [4, 3] (by decide) rfl
        refine va_calli (va_runV (As := []) (rest := [.int 1]) ⟨hx, hb, hml, hown, hts⟩ (k_X10_many l D cC cI cZ h0 h1 h8 h9 h10 h11 h4 h6 h12 h13 h14 h15 h16 h17 h18 h19 h20 h5 h7 h21 h2 h22 h23 h3 h24 h25 H.size ) (cwV (C := RX10) 0 hts (goodIn_app (goodIn_of _ (by decide +kernel)) gc_k_X10_before_k_X10_many) rfl rfl rfl (by decide +kernel) ⟨(Nat.le_of_ble_eq_true rfl), (Nat.le_of_ble_eq_true rfl)⟩) (kPreV hK hPc hDc (va_recv hK hPc (ci := 10) (q0 := 0) rfl rfl)) rfl rfl hl.1 rfl (lv_room (Nat.le_of_ble_eq_true rfl)) dX10_before_74 ⟨(Nat.le_of_ble_eq_true rfl), (Nat.le_of_ble_eq_true rfl)⟩) hS (fun q _ h => False.elim h) (fun q h => False.elim h) (fun r51 u t H1 locs ht hvm hw hB hz1 hk1 hS => ?_)
        have hP := hP.kept (H1 := H1) (fun k q hk => hk1 q.1 (hP k q hk).lt (fun h => h))
        generalize H1 = H at hP hS ⊢
        have hw : r51 = 1 := hw
        subst hw
        refine lv_icmp_ge (tgt := 175) hx hb dX10_before_77 (by decide) (fun _ => ?_) (fun c => absurd (by decide) c)
        refine lv_iconst (v := 0) hx hb dX10_before_175 (by decide) ?_
        refine lv_istore_n (lv' := [(3, .int 0), (4, .int 0), (2, .int 0), (0, .ref h0), (1, .int 4)]) hx hb dX10_before_176 rfl hl (by decide) rfl (fun ls hl => ?_)
        refine lv_iload_n hx hb dX10_before_177 rfl (lv_at hl 0 rfl) ?_
        refine lv_aload_n hx hb dX10_before_178 rfl (lv_at hl 3 rfl) ?_
        have hPc := hP.sub (ws' := [(h0, .inr (10, [.ref h8, .ref h1, .ref h9, .ref h10, .ref h11, .ref h4, .ref h6, .int 0, .ref h12, .ref h13, .ref h14, .ref h15, .ref h16, .ref h17, .ref h18, .int 0, .int 0, .int 0, .ref h19, .ref h20, .int 0, .int 0, .int 0, .ref h5, .ref h7, .ref h21, .ref h2, .ref h22, .ref h23, .ref h3, .int 0, .ref h24, .int 0, .ref h25])), (h1, .inl (cI, 9, .inl (upd (upd (upd (fun _ => 0) (Int32.toNatClampNeg 3) 5) (Int32.toNatClampNeg 4) 9) (Int32.toNatClampNeg 7) 1)))]) [4, 3] rfl
        have hDc := hD.sub (ws' := [(h0, .inr (10, [.ref h8, .ref h1, .ref h9, .ref h10, .ref h11, .ref h4, .ref h6, .int 0, .ref h12, .ref h13, .ref h14, .ref h15, .ref h16, .ref h17, .ref h18, .int 0, .int 0, .int 0, .ref h19, .ref h20, .int 0, .int 0, .int 0, .ref h5, .ref h7, .ref h21, .ref h2, .ref h22, .ref h23, .ref h3, .int 0, .ref h24, .int 0, .ref h25])), (h1, .inl (cI, 9, .inl (upd (upd (upd (fun _ => 0) (Int32.toNatClampNeg 3) 5) (Int32.toNatClampNeg 4) 9) (Int32.toNatClampNeg 7) 1)))]) [4, 3] (by decide) rfl
        refine va_calli (va_runV (As := []) (rest := [.int 0]) ⟨hx, hb, hml, hown, hts⟩ (k_X10_many l D cC cI cZ h0 h1 h8 h9 h10 h11 h4 h6 h12 h13 h14 h15 h16 h17 h18 h19 h20 h5 h7 h21 h2 h22 h23 h3 h24 h25 H.size ) (cwV (C := RX10) 0 hts (goodIn_app (goodIn_of _ (by decide +kernel)) gc_k_X10_before_k_X10_many) rfl rfl rfl (by decide +kernel) ⟨(Nat.le_of_ble_eq_true rfl), (Nat.le_of_ble_eq_true rfl)⟩) (kPreV hK hPc hDc (va_recv hK hPc (ci := 10) (q0 := 0) rfl rfl)) rfl rfl hl.1 rfl (lv_room (Nat.le_of_ble_eq_true rfl)) dX10_before_179 ⟨(Nat.le_of_ble_eq_true rfl), (Nat.le_of_ble_eq_true rfl)⟩) hS (fun q _ h => False.elim h) (fun q h => False.elim h) (fun r52 u t H1 locs ht hvm hw hB hz1 hk1 hS => ?_)
        have hP := hP.kept (H1 := H1) (fun k q hk => hk1 q.1 (hP k q hk).lt (fun h => h))
        generalize H1 = H at hP hS ⊢
        have hw : r52 = 1 := hw
        subst hw
        refine lv_icmp_ge (tgt := 223) hx hb dX10_before_182 (by decide) (fun c => absurd c (by decide)) (fun _ => ?_)
        refine lv_aload_n hx hb dX10_before_185 rfl (lv_at hl 3 rfl) ?_
        refine va_get (D := D) (ci := 10) (v := .ref h2) (C := RX10) (T := TX10) (N := 34) hx hb hts iw_k_X10_before_X10 hown hK hP 4 rfl rfl 26 (by decide) (hts (.fieldLink RX10 68 "TopTurnedModel" "far" "[I") (by decide +kernel)) (fun _ h9 => h9) rfl dX10_before_186 ?_
        refine lv_iload_n hx hb dX10_before_189 rfl (lv_at hl 0 rfl) ?_
        refine lv_aload_n hx hb dX10_before_190 rfl (lv_at hl 3 rfl) ?_
        refine va_get (D := D) (ci := 10) (v := .ref h3) (C := RX10) (T := TX10) (N := 34) hx hb hts iw_k_X10_before_X10 hown hK hP 4 rfl rfl 29 (by decide) (hts (.fieldLink RX10 77 "TopTurnedModel" "line" "[I") (by decide +kernel)) (fun _ h9 => h9) rfl dX10_before_191 ?_
        refine lv_iload_n hx hb dX10_before_194 rfl (lv_at hl 0 rfl) ?_
        refine va_iald (i := 0) hx hb hK hP 1 1 rfl rfl (vp_in_iff.mpr (by decide)) dX10_before_195 ?_
        refine kt_eq (y := 0) (by decide +kernel) ?_
        refine lv_iload_n hx hb dX10_before_196 rfl (lv_at hl 2 rfl) ?_
        refine lv_iconst (v := 1) hx hb dX10_before_197 (by decide) ?_
        refine lv_iadd hx hb dX10_before_198 ?_
        refine kt_eq (y := 1) (by decide +kernel) ?_
        refine lv_icmp_ne (tgt := 208) hx hb dX10_before_199 (by decide) (fun _ => ?_) (fun c => absurd c (by decide))
        refine lv_iconst (v := (-1)) hx hb dX10_before_208 (by decide) ?_
        refine va_iast (i := 0) (x := (-1)) hx hb hK hP hD hS 0 1 rfl rfl (vp_in_iff.mpr (by decide)) dX10_before_209 (fun H locs hP hD hS => ?_)
        have hP : va_P D vwCl [(h2, .inl (cI, 3840, .inl (upd (upd (upd (fun _ => 0) (Int32.toNatClampNeg 0) (-1)) (Int32.toNatClampNeg 0) 0) (Int32.toNatClampNeg 0) (-1)))), (h3, .inl (cI, 3840, .inl (fun _ => 0))), (h8, .inl (cI, 7, .inl (fun _ => 0))), (h1, .inl (cI, 9, .inl (upd (upd (upd (fun _ => 0) (Int32.toNatClampNeg 3) 5) (Int32.toNatClampNeg 4) 9) (Int32.toNatClampNeg 7) 1))), (h0, .inr (10, [.ref h8, .ref h1, .ref h9, .ref h10, .ref h11, .ref h4, .ref h6, .int 0, .ref h12, .ref h13, .ref h14, .ref h15, .ref h16, .ref h17, .ref h18, .int 0, .int 0, .int 0, .ref h19, .ref h20, .int 0, .int 0, .int 0, .ref h5, .ref h7, .ref h21, .ref h2, .ref h22, .ref h23, .ref h3, .int 0, .ref h24, .int 0, .ref h25])), (h4, .inl (cI, 5, .inl (fun _ => 0))), (h5, .inl (cI, 5, .inl (fun _ => 0))), (h6, .inl (cI, 5, .inl (fun _ => 0))), (h7, .inl (cI, 5, .inl (fun _ => 0)))] H := hP
        have hD : va_D A [(h2, .inl (cI, 3840, .inl (upd (upd (upd (fun _ => 0) (Int32.toNatClampNeg 0) (-1)) (Int32.toNatClampNeg 0) 0) (Int32.toNatClampNeg 0) (-1)))), (h3, .inl (cI, 3840, .inl (fun _ => 0))), (h8, .inl (cI, 7, .inl (fun _ => 0))), (h1, .inl (cI, 9, .inl (upd (upd (upd (fun _ => 0) (Int32.toNatClampNeg 3) 5) (Int32.toNatClampNeg 4) 9) (Int32.toNatClampNeg 7) 1))), (h0, .inr (10, [.ref h8, .ref h1, .ref h9, .ref h10, .ref h11, .ref h4, .ref h6, .int 0, .ref h12, .ref h13, .ref h14, .ref h15, .ref h16, .ref h17, .ref h18, .int 0, .int 0, .int 0, .ref h19, .ref h20, .int 0, .int 0, .int 0, .ref h5, .ref h7, .ref h21, .ref h2, .ref h22, .ref h23, .ref h3, .int 0, .ref h24, .int 0, .ref h25])), (h4, .inl (cI, 5, .inl (fun _ => 0))), (h5, .inl (cI, 5, .inl (fun _ => 0))), (h6, .inl (cI, 5, .inl (fun _ => 0))), (h7, .inl (cI, 5, .inl (fun _ => 0)))] := hD
        refine lv_aload_n hx hb dX10_before_210 rfl (lv_at hl 3 rfl) ?_
        refine va_get (D := D) (ci := 10) (v := .ref h3) (C := RX10) (T := TX10) (N := 34) hx hb hts iw_k_X10_before_X10 hown hK hP 4 rfl rfl 29 (by decide) (hts (.fieldLink RX10 77 "TopTurnedModel" "line" "[I") (by decide +kernel)) (fun _ h9 => h9) rfl dX10_before_211 ?_
        refine lv_iload_n hx hb dX10_before_214 rfl (lv_at hl 0 rfl) ?_
        refine lv_iconst (v := 0) hx hb dX10_before_215 (by decide) ?_
        refine kn_iastS (i := 0) (x := 0) hx hb hK hP hD hS 1 1 rfl rfl (vp_in_iff.mpr (by decide)) (by decide +kernel) dX10_before_216 (fun H locs hP hD hS => ?_)
        refine lv_iinc (v := 1) (lv' := [(3, .int 1), (4, .int 0), (2, .int 0), (0, .ref h0), (1, .int 4)]) hx hb dX10_before_217 hl (k := 0) rfl (by decide) (by decide) rfl (fun ls hl => ?_)
        refine lv_goto (tgt := 177) hx hb dX10_before_220 (by decide) ?_
        refine lv_iload_n hx hb dX10_before_177 rfl (lv_at hl 0 rfl) ?_
        refine lv_aload_n hx hb dX10_before_178 rfl (lv_at hl 3 rfl) ?_
        have hPc := hP.sub (ws' := [(h0, .inr (10, [.ref h8, .ref h1, .ref h9, .ref h10, .ref h11, .ref h4, .ref h6, .int 0, .ref h12, .ref h13, .ref h14, .ref h15, .ref h16, .ref h17, .ref h18, .int 0, .int 0, .int 0, .ref h19, .ref h20, .int 0, .int 0, .int 0, .ref h5, .ref h7, .ref h21, .ref h2, .ref h22, .ref h23, .ref h3, .int 0, .ref h24, .int 0, .ref h25])), (h1, .inl (cI, 9, .inl (upd (upd (upd (fun _ => 0) (Int32.toNatClampNeg 3) 5) (Int32.toNatClampNeg 4) 9) (Int32.toNatClampNeg 7) 1)))]) [4, 3] rfl
        have hDc := hD.sub (ws' := [(h0, .inr (10, [.ref h8, .ref h1, .ref h9, .ref h10, .ref h11, .ref h4, .ref h6, .int 0, .ref h12, .ref h13, .ref h14, .ref h15, .ref h16, .ref h17, .ref h18, .int 0, .int 0, .int 0, .ref h19, .ref h20, .int 0, .int 0, .int 0, .ref h5, .ref h7, .ref h21, .ref h2, .ref h22, .ref h23, .ref h3, .int 0, .ref h24, .int 0, .ref h25])), (h1, .inl (cI, 9, .inl (upd (upd (upd (fun _ => 0) (Int32.toNatClampNeg 3) 5) (Int32.toNatClampNeg 4) 9) (Int32.toNatClampNeg 7) 1)))]) [4, 3] (by decide) rfl
        refine va_calli (va_runV (As := []) (rest := [.int 1]) ⟨hx, hb, hml, hown, hts⟩ (k_X10_many l D cC cI cZ h0 h1 h8 h9 h10 h11 h4 h6 h12 h13 h14 h15 h16 h17 h18 h19 h20 h5 h7 h21 h2 h22 h23 h3 h24 h25 H.size ) (cwV (C := RX10) 0 hts (goodIn_app (goodIn_of _ (by decide +kernel)) gc_k_X10_before_k_X10_many) rfl rfl rfl (by decide +kernel) ⟨(Nat.le_of_ble_eq_true rfl), (Nat.le_of_ble_eq_true rfl)⟩) (kPreV hK hPc hDc (va_recv hK hPc (ci := 10) (q0 := 0) rfl rfl)) rfl rfl hl.1 rfl (lv_room (Nat.le_of_ble_eq_true rfl)) dX10_before_179 ⟨(Nat.le_of_ble_eq_true rfl), (Nat.le_of_ble_eq_true rfl)⟩) hS (fun q _ h => False.elim h) (fun q h => False.elim h) (fun r53 u t H1 locs ht hvm hw hB hz1 hk1 hS => ?_)
        have hP := hP.kept (H1 := H1) (fun k q hk => hk1 q.1 (hP k q hk).lt (fun h => h))
        generalize H1 = H at hP hS ⊢
        have hw : r53 = 1 := hw
        subst hw
        refine lv_icmp_ge (tgt := 223) hx hb dX10_before_182 (by decide) (fun _ => ?_) (fun c => absurd (by decide) c)
        refine lv_iinc (v := 1) (lv' := [(2, .int 1), (3, .int 1), (4, .int 0), (0, .ref h0), (1, .int 4)]) hx hb dX10_before_223 hl (k := 2) rfl (by decide) (by decide) rfl (fun ls hl => ?_)
        refine lv_goto (tgt := 65) hx hb dX10_before_226 (by decide) ?_
        refine lv_iload_n hx hb dX10_before_65 rfl (lv_at hl 0 rfl) ?_
        refine lv_iload_n hx hb dX10_before_66 rfl (lv_at hl 4 rfl) ?_
        refine lv_icmp_ge (tgt := 229) hx hb dX10_before_67 (by decide) (fun c => absurd c (by decide)) (fun _ => ?_)
        refine lv_iconst (v := 0) hx hb dX10_before_70 (by decide) ?_
        refine lv_istore_n (lv' := [(3, .int 0), (2, .int 1), (4, .int 0), (0, .ref h0), (1, .int 4)]) hx hb dX10_before_71 rfl hl (by decide) rfl (fun ls hl => ?_)
        refine lv_iload_n hx hb dX10_before_72 rfl (lv_at hl 0 rfl) ?_
        refine lv_aload_n hx hb dX10_before_73 rfl (lv_at hl 3 rfl) ?_
        have hPc := hP.sub (ws' := [(h0, .inr (10, [.ref h8, .ref h1, .ref h9, .ref h10, .ref h11, .ref h4, .ref h6, .int 0, .ref h12, .ref h13, .ref h14, .ref h15, .ref h16, .ref h17, .ref h18, .int 0, .int 0, .int 0, .ref h19, .ref h20, .int 0, .int 0, .int 0, .ref h5, .ref h7, .ref h21, .ref h2, .ref h22, .ref h23, .ref h3, .int 0, .ref h24, .int 0, .ref h25])), (h1, .inl (cI, 9, .inl (upd (upd (upd (fun _ => 0) (Int32.toNatClampNeg 3) 5) (Int32.toNatClampNeg 4) 9) (Int32.toNatClampNeg 7) 1)))]) [4, 3] rfl
        have hDc := hD.sub (ws' := [(h0, .inr (10, [.ref h8, .ref h1, .ref h9, .ref h10, .ref h11, .ref h4, .ref h6, .int 0, .ref h12, .ref h13, .ref h14, .ref h15, .ref h16, .ref h17, .ref h18, .int 0, .int 0, .int 0, .ref h19, .ref h20, .int 0, .int 0, .int 0, .ref h5, .ref h7, .ref h21, .ref h2, .ref h22, .ref h23, .ref h3, .int 0, .ref h24, .int 0, .ref h25])), (h1, .inl (cI, 9, .inl (upd (upd (upd (fun _ => 0) (Int32.toNatClampNeg 3) 5) (Int32.toNatClampNeg 4) 9) (Int32.toNatClampNeg 7) 1)))]) [4, 3] (by decide) rfl
        refine va_calli (va_runV (As := []) (rest := [.int 0]) ⟨hx, hb, hml, hown, hts⟩ (k_X10_many l D cC cI cZ h0 h1 h8 h9 h10 h11 h4 h6 h12 h13 h14 h15 h16 h17 h18 h19 h20 h5 h7 h21 h2 h22 h23 h3 h24 h25 H.size ) (cwV (C := RX10) 0 hts (goodIn_app (goodIn_of _ (by decide +kernel)) gc_k_X10_before_k_X10_many) rfl rfl rfl (by decide +kernel) ⟨(Nat.le_of_ble_eq_true rfl), (Nat.le_of_ble_eq_true rfl)⟩) (kPreV hK hPc hDc (va_recv hK hPc (ci := 10) (q0 := 0) rfl rfl)) rfl rfl hl.1 rfl (lv_room (Nat.le_of_ble_eq_true rfl)) dX10_before_74 ⟨(Nat.le_of_ble_eq_true rfl), (Nat.le_of_ble_eq_true rfl)⟩) hS (fun q _ h => False.elim h) (fun q h => False.elim h) (fun r54 u t H1 locs ht hvm hw hB hz1 hk1 hS => ?_)
        have hP := hP.kept (H1 := H1) (fun k q hk => hk1 q.1 (hP k q hk).lt (fun h => h))
        generalize H1 = H at hP hS ⊢
        have hw : r54 = 1 := hw
        subst hw
        refine lv_icmp_ge (tgt := 175) hx hb dX10_before_77 (by decide) (fun c => absurd c (by decide)) (fun _ => ?_)
        refine lv_iconst (v := 0) hx hb dX10_before_80 (by decide) ?_
        refine lv_istore (lv' := [(4, .int 0), (3, .int 0), (2, .int 1), (0, .ref h0), (1, .int 4)]) hx hb dX10_before_81 hl (by decide) rfl (fun ls hl => ?_)
        refine lv_iload hx hb dX10_before_83 (lv_at hl 0 rfl) ?_
        refine lv_aload_n hx hb dX10_before_85 rfl (lv_at hl 3 rfl) ?_
        refine va_get (D := D) (ci := 10) (v := .ref h1) (C := RX10) (T := TX10) (N := 34) hx hb hts iw_k_X10_before_X10 hown hK hP 4 rfl rfl 1 (by decide) (hts (.fieldLink RX10 13 "TopTurnedModel" "told" "[I") (by decide +kernel)) (fun _ h9 => h9) rfl dX10_before_86 ?_
        refine lv_iconst (v := 0) hx hb dX10_before_89 (by decide) ?_
        refine va_iald (i := 0) hx hb hK hP 3 1 rfl rfl (vp_in_iff.mpr (by decide)) dX10_before_90 ?_
        refine kt_eq (y := 0) (by decide +kernel) ?_
        refine lv_icmp_ge (tgt := 169) hx hb dX10_before_91 (by decide) (fun _ => ?_) (fun c => absurd (by decide) c)
        refine lv_iinc (v := 1) (lv' := [(3, .int 1), (4, .int 0), (2, .int 1), (0, .ref h0), (1, .int 4)]) hx hb dX10_before_169 hl (k := 1) rfl (by decide) (by decide) rfl (fun ls hl => ?_)
        refine lv_goto (tgt := 72) hx hb dX10_before_172 (by decide) ?_
        refine lv_iload_n hx hb dX10_before_72 rfl (lv_at hl 0 rfl) ?_
        refine lv_aload_n hx hb dX10_before_73 rfl (lv_at hl 3 rfl) ?_
        have hPc := hP.sub (ws' := [(h0, .inr (10, [.ref h8, .ref h1, .ref h9, .ref h10, .ref h11, .ref h4, .ref h6, .int 0, .ref h12, .ref h13, .ref h14, .ref h15, .ref h16, .ref h17, .ref h18, .int 0, .int 0, .int 0, .ref h19, .ref h20, .int 0, .int 0, .int 0, .ref h5, .ref h7, .ref h21, .ref h2, .ref h22, .ref h23, .ref h3, .int 0, .ref h24, .int 0, .ref h25])), (h1, .inl (cI, 9, .inl (upd (upd (upd (fun _ => 0) (Int32.toNatClampNeg 3) 5) (Int32.toNatClampNeg 4) 9) (Int32.toNatClampNeg 7) 1)))]) [4, 3] rfl
        have hDc := hD.sub (ws' := [(h0, .inr (10, [.ref h8, .ref h1, .ref h9, .ref h10, .ref h11, .ref h4, .ref h6, .int 0, .ref h12, .ref h13, .ref h14, .ref h15, .ref h16, .ref h17, .ref h18, .int 0, .int 0, .int 0, .ref h19, .ref h20, .int 0, .int 0, .int 0, .ref h5, .ref h7, .ref h21, .ref h2, .ref h22, .ref h23, .ref h3, .int 0, .ref h24, .int 0, .ref h25])), (h1, .inl (cI, 9, .inl (upd (upd (upd (fun _ => 0) (Int32.toNatClampNeg 3) 5) (Int32.toNatClampNeg 4) 9) (Int32.toNatClampNeg 7) 1)))]) [4, 3] (by decide) rfl
        refine va_calli (va_runV (As := []) (rest := [.int 1]) ⟨hx, hb, hml, hown, hts⟩ (k_X10_many l D cC cI cZ h0 h1 h8 h9 h10 h11 h4 h6 h12 h13 h14 h15 h16 h17 h18 h19 h20 h5 h7 h21 h2 h22 h23 h3 h24 h25 H.size ) (cwV (C := RX10) 0 hts (goodIn_app (goodIn_of _ (by decide +kernel)) gc_k_X10_before_k_X10_many) rfl rfl rfl (by decide +kernel) ⟨(Nat.le_of_ble_eq_true rfl), (Nat.le_of_ble_eq_true rfl)⟩) (kPreV hK hPc hDc (va_recv hK hPc (ci := 10) (q0 := 0) rfl rfl)) rfl rfl hl.1 rfl (lv_room (Nat.le_of_ble_eq_true rfl)) dX10_before_74 ⟨(Nat.le_of_ble_eq_true rfl), (Nat.le_of_ble_eq_true rfl)⟩) hS (fun q _ h => False.elim h) (fun q h => False.elim h) (fun r55 u t H1 locs ht hvm hw hB hz1 hk1 hS => ?_)
        have hP := hP.kept (H1 := H1) (fun k q hk => hk1 q.1 (hP k q hk).lt (fun h => h))
        generalize H1 = H at hP hS ⊢
        have hw : r55 = 1 := hw
        subst hw
        refine lv_icmp_ge (tgt := 175) hx hb dX10_before_77 (by decide) (fun _ => ?_) (fun c => absurd (by decide) c)
        refine lv_iconst (v := 0) hx hb dX10_before_175 (by decide) ?_
        refine lv_istore_n (lv' := [(3, .int 0), (4, .int 0), (2, .int 1), (0, .ref h0), (1, .int 4)]) hx hb dX10_before_176 rfl hl (by decide) rfl (fun ls hl => ?_)
        refine lv_iload_n hx hb dX10_before_177 rfl (lv_at hl 0 rfl) ?_
        refine lv_aload_n hx hb dX10_before_178 rfl (lv_at hl 3 rfl) ?_
        have hPc := hP.sub (ws' := [(h0, .inr (10, [.ref h8, .ref h1, .ref h9, .ref h10, .ref h11, .ref h4, .ref h6, .int 0, .ref h12, .ref h13, .ref h14, .ref h15, .ref h16, .ref h17, .ref h18, .int 0, .int 0, .int 0, .ref h19, .ref h20, .int 0, .int 0, .int 0, .ref h5, .ref h7, .ref h21, .ref h2, .ref h22, .ref h23, .ref h3, .int 0, .ref h24, .int 0, .ref h25])), (h1, .inl (cI, 9, .inl (upd (upd (upd (fun _ => 0) (Int32.toNatClampNeg 3) 5) (Int32.toNatClampNeg 4) 9) (Int32.toNatClampNeg 7) 1)))]) [4, 3] rfl
        have hDc := hD.sub (ws' := [(h0, .inr (10, [.ref h8, .ref h1, .ref h9, .ref h10, .ref h11, .ref h4, .ref h6, .int 0, .ref h12, .ref h13, .ref h14, .ref h15, .ref h16, .ref h17, .ref h18, .int 0, .int 0, .int 0, .ref h19, .ref h20, .int 0, .int 0, .int 0, .ref h5, .ref h7, .ref h21, .ref h2, .ref h22, .ref h23, .ref h3, .int 0, .ref h24, .int 0, .ref h25])), (h1, .inl (cI, 9, .inl (upd (upd (upd (fun _ => 0) (Int32.toNatClampNeg 3) 5) (Int32.toNatClampNeg 4) 9) (Int32.toNatClampNeg 7) 1)))]) [4, 3] (by decide) rfl
        refine va_calli (va_runV (As := []) (rest := [.int 0]) ⟨hx, hb, hml, hown, hts⟩ (k_X10_many l D cC cI cZ h0 h1 h8 h9 h10 h11 h4 h6 h12 h13 h14 h15 h16 h17 h18 h19 h20 h5 h7 h21 h2 h22 h23 h3 h24 h25 H.size ) (cwV (C := RX10) 0 hts (goodIn_app (goodIn_of _ (by decide +kernel)) gc_k_X10_before_k_X10_many) rfl rfl rfl (by decide +kernel) ⟨(Nat.le_of_ble_eq_true rfl), (Nat.le_of_ble_eq_true rfl)⟩) (kPreV hK hPc hDc (va_recv hK hPc (ci := 10) (q0 := 0) rfl rfl)) rfl rfl hl.1 rfl (lv_room (Nat.le_of_ble_eq_true rfl)) dX10_before_179 ⟨(Nat.le_of_ble_eq_true rfl), (Nat.le_of_ble_eq_true rfl)⟩) hS (fun q _ h => False.elim h) (fun q h => False.elim h) (fun r56 u t H1 locs ht hvm hw hB hz1 hk1 hS => ?_)
        have hP := hP.kept (H1 := H1) (fun k q hk => hk1 q.1 (hP k q hk).lt (fun h => h))
        generalize H1 = H at hP hS ⊢
        have hw : r56 = 1 := hw
        subst hw
        refine lv_icmp_ge (tgt := 223) hx hb dX10_before_182 (by decide) (fun c => absurd c (by decide)) (fun _ => ?_)
        refine lv_aload_n hx hb dX10_before_185 rfl (lv_at hl 3 rfl) ?_
        refine va_get (D := D) (ci := 10) (v := .ref h2) (C := RX10) (T := TX10) (N := 34) hx hb hts iw_k_X10_before_X10 hown hK hP 4 rfl rfl 26 (by decide) (hts (.fieldLink RX10 68 "TopTurnedModel" "far" "[I") (by decide +kernel)) (fun _ h9 => h9) rfl dX10_before_186 ?_
        refine lv_iload_n hx hb dX10_before_189 rfl (lv_at hl 0 rfl) ?_
        refine lv_aload_n hx hb dX10_before_190 rfl (lv_at hl 3 rfl) ?_
        refine va_get (D := D) (ci := 10) (v := .ref h3) (C := RX10) (T := TX10) (N := 34) hx hb hts iw_k_X10_before_X10 hown hK hP 4 rfl rfl 29 (by decide) (hts (.fieldLink RX10 77 "TopTurnedModel" "line" "[I") (by decide +kernel)) (fun _ h9 => h9) rfl dX10_before_191 ?_
        refine lv_iload_n hx hb dX10_before_194 rfl (lv_at hl 0 rfl) ?_
        refine va_iald (i := 0) hx hb hK hP 1 1 rfl rfl (vp_in_iff.mpr (by decide)) dX10_before_195 ?_
        refine kt_eq (y := 0) (by decide +kernel) ?_
        refine lv_iload_n hx hb dX10_before_196 rfl (lv_at hl 2 rfl) ?_
        refine lv_iconst (v := 1) hx hb dX10_before_197 (by decide) ?_
        refine lv_iadd hx hb dX10_before_198 ?_
        refine kt_eq (y := 2) (by decide +kernel) ?_
        refine lv_icmp_ne (tgt := 208) hx hb dX10_before_199 (by decide) (fun _ => ?_) (fun c => absurd c (by decide))
        refine lv_iconst (v := (-1)) hx hb dX10_before_208 (by decide) ?_
        refine kn_iastS (i := 0) (x := (-1)) hx hb hK hP hD hS 0 1 rfl rfl (vp_in_iff.mpr (by decide)) (by decide +kernel) dX10_before_209 (fun H locs hP hD hS => ?_)
        refine lv_aload_n hx hb dX10_before_210 rfl (lv_at hl 3 rfl) ?_
        refine va_get (D := D) (ci := 10) (v := .ref h3) (C := RX10) (T := TX10) (N := 34) hx hb hts iw_k_X10_before_X10 hown hK hP 4 rfl rfl 29 (by decide) (hts (.fieldLink RX10 77 "TopTurnedModel" "line" "[I") (by decide +kernel)) (fun _ h9 => h9) rfl dX10_before_211 ?_
        refine lv_iload_n hx hb dX10_before_214 rfl (lv_at hl 0 rfl) ?_
        refine lv_iconst (v := 0) hx hb dX10_before_215 (by decide) ?_
        refine kn_iastS (i := 0) (x := 0) hx hb hK hP hD hS 1 1 rfl rfl (vp_in_iff.mpr (by decide)) (by decide +kernel) dX10_before_216 (fun H locs hP hD hS => ?_)
        refine lv_iinc (v := 1) (lv' := [(3, .int 1), (4, .int 0), (2, .int 1), (0, .ref h0), (1, .int 4)]) hx hb dX10_before_217 hl (k := 0) rfl (by decide) (by decide) rfl (fun ls hl => ?_)
        refine lv_goto (tgt := 177) hx hb dX10_before_220 (by decide) ?_
        refine lv_iload_n hx hb dX10_before_177 rfl (lv_at hl 0 rfl) ?_
        refine lv_aload_n hx hb dX10_before_178 rfl (lv_at hl 3 rfl) ?_
        have hPc := hP.sub (ws' := [(h0, .inr (10, [.ref h8, .ref h1, .ref h9, .ref h10, .ref h11, .ref h4, .ref h6, .int 0, .ref h12, .ref h13, .ref h14, .ref h15, .ref h16, .ref h17, .ref h18, .int 0, .int 0, .int 0, .ref h19, .ref h20, .int 0, .int 0, .int 0, .ref h5, .ref h7, .ref h21, .ref h2, .ref h22, .ref h23, .ref h3, .int 0, .ref h24, .int 0, .ref h25])), (h1, .inl (cI, 9, .inl (upd (upd (upd (fun _ => 0) (Int32.toNatClampNeg 3) 5) (Int32.toNatClampNeg 4) 9) (Int32.toNatClampNeg 7) 1)))]) [4, 3] rfl
        have hDc := hD.sub (ws' := [(h0, .inr (10, [.ref h8, .ref h1, .ref h9, .ref h10, .ref h11, .ref h4, .ref h6, .int 0, .ref h12, .ref h13, .ref h14, .ref h15, .ref h16, .ref h17, .ref h18, .int 0, .int 0, .int 0, .ref h19, .ref h20, .int 0, .int 0, .int 0, .ref h5, .ref h7, .ref h21, .ref h2, .ref h22, .ref h23, .ref h3, .int 0, .ref h24, .int 0, .ref h25])), (h1, .inl (cI, 9, .inl (upd (upd (upd (fun _ => 0) (Int32.toNatClampNeg 3) 5) (Int32.toNatClampNeg 4) 9) (Int32.toNatClampNeg 7) 1)))]) [4, 3] (by decide) rfl
        refine va_calli (va_runV (As := []) (rest := [.int 1]) ⟨hx, hb, hml, hown, hts⟩ (k_X10_many l D cC cI cZ h0 h1 h8 h9 h10 h11 h4 h6 h12 h13 h14 h15 h16 h17 h18 h19 h20 h5 h7 h21 h2 h22 h23 h3 h24 h25 H.size ) (cwV (C := RX10) 0 hts (goodIn_app (goodIn_of _ (by decide +kernel)) gc_k_X10_before_k_X10_many) rfl rfl rfl (by decide +kernel) ⟨(Nat.le_of_ble_eq_true rfl), (Nat.le_of_ble_eq_true rfl)⟩) (kPreV hK hPc hDc (va_recv hK hPc (ci := 10) (q0 := 0) rfl rfl)) rfl rfl hl.1 rfl (lv_room (Nat.le_of_ble_eq_true rfl)) dX10_before_179 ⟨(Nat.le_of_ble_eq_true rfl), (Nat.le_of_ble_eq_true rfl)⟩) hS (fun q _ h => False.elim h) (fun q h => False.elim h) (fun r57 u t H1 locs ht hvm hw hB hz1 hk1 hS => ?_)
        have hP := hP.kept (H1 := H1) (fun k q hk => hk1 q.1 (hP k q hk).lt (fun h => h))
        generalize H1 = H at hP hS ⊢
        have hw : r57 = 1 := hw
        subst hw
        refine lv_icmp_ge (tgt := 223) hx hb dX10_before_182 (by decide) (fun _ => ?_) (fun c => absurd (by decide) c)
        refine lv_iinc (v := 2) (lv' := [(2, .int 2), (3, .int 1), (4, .int 0), (0, .ref h0), (1, .int 4)]) hx hb dX10_before_223 hl (k := 2) rfl (by decide) (by decide) rfl (fun ls hl => ?_)
        refine lv_goto (tgt := 65) hx hb dX10_before_226 (by decide) ?_
        refine lv_iload_n hx hb dX10_before_65 rfl (lv_at hl 0 rfl) ?_
        refine lv_iload_n hx hb dX10_before_66 rfl (lv_at hl 4 rfl) ?_
        refine lv_icmp_ge (tgt := 229) hx hb dX10_before_67 (by decide) (fun c => absurd c (by decide)) (fun _ => ?_)
        refine lv_iconst (v := 0) hx hb dX10_before_70 (by decide) ?_
        refine lv_istore_n (lv' := [(3, .int 0), (2, .int 2), (4, .int 0), (0, .ref h0), (1, .int 4)]) hx hb dX10_before_71 rfl hl (by decide) rfl (fun ls hl => ?_)
        refine lv_iload_n hx hb dX10_before_72 rfl (lv_at hl 0 rfl) ?_
        refine lv_aload_n hx hb dX10_before_73 rfl (lv_at hl 3 rfl) ?_
        have hPc := hP.sub (ws' := [(h0, .inr (10, [.ref h8, .ref h1, .ref h9, .ref h10, .ref h11, .ref h4, .ref h6, .int 0, .ref h12, .ref h13, .ref h14, .ref h15, .ref h16, .ref h17, .ref h18, .int 0, .int 0, .int 0, .ref h19, .ref h20, .int 0, .int 0, .int 0, .ref h5, .ref h7, .ref h21, .ref h2, .ref h22, .ref h23, .ref h3, .int 0, .ref h24, .int 0, .ref h25])), (h1, .inl (cI, 9, .inl (upd (upd (upd (fun _ => 0) (Int32.toNatClampNeg 3) 5) (Int32.toNatClampNeg 4) 9) (Int32.toNatClampNeg 7) 1)))]) [4, 3] rfl
        have hDc := hD.sub (ws' := [(h0, .inr (10, [.ref h8, .ref h1, .ref h9, .ref h10, .ref h11, .ref h4, .ref h6, .int 0, .ref h12, .ref h13, .ref h14, .ref h15, .ref h16, .ref h17, .ref h18, .int 0, .int 0, .int 0, .ref h19, .ref h20, .int 0, .int 0, .int 0, .ref h5, .ref h7, .ref h21, .ref h2, .ref h22, .ref h23, .ref h3, .int 0, .ref h24, .int 0, .ref h25])), (h1, .inl (cI, 9, .inl (upd (upd (upd (fun _ => 0) (Int32.toNatClampNeg 3) 5) (Int32.toNatClampNeg 4) 9) (Int32.toNatClampNeg 7) 1)))]) [4, 3] (by decide) rfl
        refine va_calli (va_runV (As := []) (rest := [.int 0]) ⟨hx, hb, hml, hown, hts⟩ (k_X10_many l D cC cI cZ h0 h1 h8 h9 h10 h11 h4 h6 h12 h13 h14 h15 h16 h17 h18 h19 h20 h5 h7 h21 h2 h22 h23 h3 h24 h25 H.size ) (cwV (C := RX10) 0 hts (goodIn_app (goodIn_of _ (by decide +kernel)) gc_k_X10_before_k_X10_many) rfl rfl rfl (by decide +kernel) ⟨(Nat.le_of_ble_eq_true rfl), (Nat.le_of_ble_eq_true rfl)⟩) (kPreV hK hPc hDc (va_recv hK hPc (ci := 10) (q0 := 0) rfl rfl)) rfl rfl hl.1 rfl (lv_room (Nat.le_of_ble_eq_true rfl)) dX10_before_74 ⟨(Nat.le_of_ble_eq_true rfl), (Nat.le_of_ble_eq_true rfl)⟩) hS (fun q _ h => False.elim h) (fun q h => False.elim h) (fun r58 u t H1 locs ht hvm hw hB hz1 hk1 hS => ?_)
        have hP := hP.kept (H1 := H1) (fun k q hk => hk1 q.1 (hP k q hk).lt (fun h => h))
        generalize H1 = H at hP hS ⊢
        have hw : r58 = 1 := hw
        subst hw
        refine lv_icmp_ge (tgt := 175) hx hb dX10_before_77 (by decide) (fun c => absurd c (by decide)) (fun _ => ?_)
        refine lv_iconst (v := 0) hx hb dX10_before_80 (by decide) ?_
        refine lv_istore (lv' := [(4, .int 0), (3, .int 0), (2, .int 2), (0, .ref h0), (1, .int 4)]) hx hb dX10_before_81 hl (by decide) rfl (fun ls hl => ?_)
        refine lv_iload hx hb dX10_before_83 (lv_at hl 0 rfl) ?_
        refine lv_aload_n hx hb dX10_before_85 rfl (lv_at hl 3 rfl) ?_
        refine va_get (D := D) (ci := 10) (v := .ref h1) (C := RX10) (T := TX10) (N := 34) hx hb hts iw_k_X10_before_X10 hown hK hP 4 rfl rfl 1 (by decide) (hts (.fieldLink RX10 13 "TopTurnedModel" "told" "[I") (by decide +kernel)) (fun _ h9 => h9) rfl dX10_before_86 ?_
        refine lv_iconst (v := 0) hx hb dX10_before_89 (by decide) ?_
        refine va_iald (i := 0) hx hb hK hP 3 1 rfl rfl (vp_in_iff.mpr (by decide)) dX10_before_90 ?_
        refine kt_eq (y := 0) (by decide +kernel) ?_
        refine lv_icmp_ge (tgt := 169) hx hb dX10_before_91 (by decide) (fun _ => ?_) (fun c => absurd (by decide) c)
        refine lv_iinc (v := 1) (lv' := [(3, .int 1), (4, .int 0), (2, .int 2), (0, .ref h0), (1, .int 4)]) hx hb dX10_before_169 hl (k := 1) rfl (by decide) (by decide) rfl (fun ls hl => ?_)
        refine lv_goto (tgt := 72) hx hb dX10_before_172 (by decide) ?_
        refine lv_iload_n hx hb dX10_before_72 rfl (lv_at hl 0 rfl) ?_
        refine lv_aload_n hx hb dX10_before_73 rfl (lv_at hl 3 rfl) ?_
        have hPc := hP.sub (ws' := [(h0, .inr (10, [.ref h8, .ref h1, .ref h9, .ref h10, .ref h11, .ref h4, .ref h6, .int 0, .ref h12, .ref h13, .ref h14, .ref h15, .ref h16, .ref h17, .ref h18, .int 0, .int 0, .int 0, .ref h19, .ref h20, .int 0, .int 0, .int 0, .ref h5, .ref h7, .ref h21, .ref h2, .ref h22, .ref h23, .ref h3, .int 0, .ref h24, .int 0, .ref h25])), (h1, .inl (cI, 9, .inl (upd (upd (upd (fun _ => 0) (Int32.toNatClampNeg 3) 5) (Int32.toNatClampNeg 4) 9) (Int32.toNatClampNeg 7) 1)))]) [4, 3] rfl
        have hDc := hD.sub (ws' := [(h0, .inr (10, [.ref h8, .ref h1, .ref h9, .ref h10, .ref h11, .ref h4, .ref h6, .int 0, .ref h12, .ref h13, .ref h14, .ref h15, .ref h16, .ref h17, .ref h18, .int 0, .int 0, .int 0, .ref h19, .ref h20, .int 0, .int 0, .int 0, .ref h5, .ref h7, .ref h21, .ref h2, .ref h22, .ref h23, .ref h3, .int 0, .ref h24, .int 0, .ref h25])), (h1, .inl (cI, 9, .inl (upd (upd (upd (fun _ => 0) (Int32.toNatClampNeg 3) 5) (Int32.toNatClampNeg 4) 9) (Int32.toNatClampNeg 7) 1)))]) [4, 3] (by decide) rfl
        refine va_calli (va_runV (As := []) (rest := [.int 1]) ⟨hx, hb, hml, hown, hts⟩ (k_X10_many l D cC cI cZ h0 h1 h8 h9 h10 h11 h4 h6 h12 h13 h14 h15 h16 h17 h18 h19 h20 h5 h7 h21 h2 h22 h23 h3 h24 h25 H.size ) (cwV (C := RX10) 0 hts (goodIn_app (goodIn_of _ (by decide +kernel)) gc_k_X10_before_k_X10_many) rfl rfl rfl (by decide +kernel) ⟨(Nat.le_of_ble_eq_true rfl), (Nat.le_of_ble_eq_true rfl)⟩) (kPreV hK hPc hDc (va_recv hK hPc (ci := 10) (q0 := 0) rfl rfl)) rfl rfl hl.1 rfl (lv_room (Nat.le_of_ble_eq_true rfl)) dX10_before_74 ⟨(Nat.le_of_ble_eq_true rfl), (Nat.le_of_ble_eq_true rfl)⟩) hS (fun q _ h => False.elim h) (fun q h => False.elim h) (fun r59 u t H1 locs ht hvm hw hB hz1 hk1 hS => ?_)
        have hP := hP.kept (H1 := H1) (fun k q hk => hk1 q.1 (hP k q hk).lt (fun h => h))
        generalize H1 = H at hP hS ⊢
        have hw : r59 = 1 := hw
        subst hw
        refine lv_icmp_ge (tgt := 175) hx hb dX10_before_77 (by decide) (fun _ => ?_) (fun c => absurd (by decide) c)
        refine lv_iconst (v := 0) hx hb dX10_before_175 (by decide) ?_
        refine lv_istore_n (lv' := [(3, .int 0), (4, .int 0), (2, .int 2), (0, .ref h0), (1, .int 4)]) hx hb dX10_before_176 rfl hl (by decide) rfl (fun ls hl => ?_)
        refine lv_iload_n hx hb dX10_before_177 rfl (lv_at hl 0 rfl) ?_
        refine lv_aload_n hx hb dX10_before_178 rfl (lv_at hl 3 rfl) ?_
        have hPc := hP.sub (ws' := [(h0, .inr (10, [.ref h8, .ref h1, .ref h9, .ref h10, .ref h11, .ref h4, .ref h6, .int 0, .ref h12, .ref h13, .ref h14, .ref h15, .ref h16, .ref h17, .ref h18, .int 0, .int 0, .int 0, .ref h19, .ref h20, .int 0, .int 0, .int 0, .ref h5, .ref h7, .ref h21, .ref h2, .ref h22, .ref h23, .ref h3, .int 0, .ref h24, .int 0, .ref h25])), (h1, .inl (cI, 9, .inl (upd (upd (upd (fun _ => 0) (Int32.toNatClampNeg 3) 5) (Int32.toNatClampNeg 4) 9) (Int32.toNatClampNeg 7) 1)))]) [4, 3] rfl
        have hDc := hD.sub (ws' := [(h0, .inr (10, [.ref h8, .ref h1, .ref h9, .ref h10, .ref h11, .ref h4, .ref h6, .int 0, .ref h12, .ref h13, .ref h14, .ref h15, .ref h16, .ref h17, .ref h18, .int 0, .int 0, .int 0, .ref h19, .ref h20, .int 0, .int 0, .int 0, .ref h5, .ref h7, .ref h21, .ref h2, .ref h22, .ref h23, .ref h3, .int 0, .ref h24, .int 0, .ref h25])), (h1, .inl (cI, 9, .inl (upd (upd (upd (fun _ => 0) (Int32.toNatClampNeg 3) 5) (Int32.toNatClampNeg 4) 9) (Int32.toNatClampNeg 7) 1)))]) [4, 3] (by decide) rfl
        refine va_calli (va_runV (As := []) (rest := [.int 0]) ⟨hx, hb, hml, hown, hts⟩ (k_X10_many l D cC cI cZ h0 h1 h8 h9 h10 h11 h4 h6 h12 h13 h14 h15 h16 h17 h18 h19 h20 h5 h7 h21 h2 h22 h23 h3 h24 h25 H.size ) (cwV (C := RX10) 0 hts (goodIn_app (goodIn_of _ (by decide +kernel)) gc_k_X10_before_k_X10_many) rfl rfl rfl (by decide +kernel) ⟨(Nat.le_of_ble_eq_true rfl), (Nat.le_of_ble_eq_true rfl)⟩) (kPreV hK hPc hDc (va_recv hK hPc (ci := 10) (q0 := 0) rfl rfl)) rfl rfl hl.1 rfl (lv_room (Nat.le_of_ble_eq_true rfl)) dX10_before_179 ⟨(Nat.le_of_ble_eq_true rfl), (Nat.le_of_ble_eq_true rfl)⟩) hS (fun q _ h => False.elim h) (fun q h => False.elim h) (fun r60 u t H1 locs ht hvm hw hB hz1 hk1 hS => ?_)
        have hP := hP.kept (H1 := H1) (fun k q hk => hk1 q.1 (hP k q hk).lt (fun h => h))
        generalize H1 = H at hP hS ⊢
        have hw : r60 = 1 := hw
        subst hw
        refine lv_icmp_ge (tgt := 223) hx hb dX10_before_182 (by decide) (fun c => absurd c (by decide)) (fun _ => ?_)
        refine lv_aload_n hx hb dX10_before_185 rfl (lv_at hl 3 rfl) ?_
        refine va_get (D := D) (ci := 10) (v := .ref h2) (C := RX10) (T := TX10) (N := 34) hx hb hts iw_k_X10_before_X10 hown hK hP 4 rfl rfl 26 (by decide) (hts (.fieldLink RX10 68 "TopTurnedModel" "far" "[I") (by decide +kernel)) (fun _ h9 => h9) rfl dX10_before_186 ?_
        refine lv_iload_n hx hb dX10_before_189 rfl (lv_at hl 0 rfl) ?_
        refine lv_aload_n hx hb dX10_before_190 rfl (lv_at hl 3 rfl) ?_
        refine va_get (D := D) (ci := 10) (v := .ref h3) (C := RX10) (T := TX10) (N := 34) hx hb hts iw_k_X10_before_X10 hown hK hP 4 rfl rfl 29 (by decide) (hts (.fieldLink RX10 77 "TopTurnedModel" "line" "[I") (by decide +kernel)) (fun _ h9 => h9) rfl dX10_before_191 ?_
        refine lv_iload_n hx hb dX10_before_194 rfl (lv_at hl 0 rfl) ?_
        refine va_iald (i := 0) hx hb hK hP 1 1 rfl rfl (vp_in_iff.mpr (by decide)) dX10_before_195 ?_
        refine kt_eq (y := 0) (by decide +kernel) ?_
        refine lv_iload_n hx hb dX10_before_196 rfl (lv_at hl 2 rfl) ?_
        refine lv_iconst (v := 1) hx hb dX10_before_197 (by decide) ?_
        refine lv_iadd hx hb dX10_before_198 ?_
        refine kt_eq (y := 3) (by decide +kernel) ?_
        refine lv_icmp_ne (tgt := 208) hx hb dX10_before_199 (by decide) (fun _ => ?_) (fun c => absurd c (by decide))
        refine lv_iconst (v := (-1)) hx hb dX10_before_208 (by decide) ?_
        refine kn_iastS (i := 0) (x := (-1)) hx hb hK hP hD hS 0 1 rfl rfl (vp_in_iff.mpr (by decide)) (by decide +kernel) dX10_before_209 (fun H locs hP hD hS => ?_)
        refine lv_aload_n hx hb dX10_before_210 rfl (lv_at hl 3 rfl) ?_
        refine va_get (D := D) (ci := 10) (v := .ref h3) (C := RX10) (T := TX10) (N := 34) hx hb hts iw_k_X10_before_X10 hown hK hP 4 rfl rfl 29 (by decide) (hts (.fieldLink RX10 77 "TopTurnedModel" "line" "[I") (by decide +kernel)) (fun _ h9 => h9) rfl dX10_before_211 ?_
        refine lv_iload_n hx hb dX10_before_214 rfl (lv_at hl 0 rfl) ?_
        refine lv_iconst (v := 0) hx hb dX10_before_215 (by decide) ?_
        refine kn_iastS (i := 0) (x := 0) hx hb hK hP hD hS 1 1 rfl rfl (vp_in_iff.mpr (by decide)) (by decide +kernel) dX10_before_216 (fun H locs hP hD hS => ?_)
        refine lv_iinc (v := 1) (lv' := [(3, .int 1), (4, .int 0), (2, .int 2), (0, .ref h0), (1, .int 4)]) hx hb dX10_before_217 hl (k := 0) rfl (by decide) (by decide) rfl (fun ls hl => ?_)
        refine lv_goto (tgt := 177) hx hb dX10_before_220 (by decide) ?_
        refine lv_iload_n hx hb dX10_before_177 rfl (lv_at hl 0 rfl) ?_
        refine lv_aload_n hx hb dX10_before_178 rfl (lv_at hl 3 rfl) ?_
        have hPc := hP.sub (ws' := [(h0, .inr (10, [.ref h8, .ref h1, .ref h9, .ref h10, .ref h11, .ref h4, .ref h6, .int 0, .ref h12, .ref h13, .ref h14, .ref h15, .ref h16, .ref h17, .ref h18, .int 0, .int 0, .int 0, .ref h19, .ref h20, .int 0, .int 0, .int 0, .ref h5, .ref h7, .ref h21, .ref h2, .ref h22, .ref h23, .ref h3, .int 0, .ref h24, .int 0, .ref h25])), (h1, .inl (cI, 9, .inl (upd (upd (upd (fun _ => 0) (Int32.toNatClampNeg 3) 5) (Int32.toNatClampNeg 4) 9) (Int32.toNatClampNeg 7) 1)))]) [4, 3] rfl
        have hDc := hD.sub (ws' := [(h0, .inr (10, [.ref h8, .ref h1, .ref h9, .ref h10, .ref h11, .ref h4, .ref h6, .int 0, .ref h12, .ref h13, .ref h14, .ref h15, .ref h16, .ref h17, .ref h18, .int 0, .int 0, .int 0, .ref h19, .ref h20, .int 0, .int 0, .int 0, .ref h5, .ref h7, .ref h21, .ref h2, .ref h22, .ref h23, .ref h3, .int 0, .ref h24, .int 0, .ref h25])), (h1, .inl (cI, 9, .inl (upd (upd (upd (fun _ => 0) (Int32.toNatClampNeg 3) 5) (Int32.toNatClampNeg 4) 9) (Int32.toNatClampNeg 7) 1)))]) [4, 3] (by decide) rfl
        refine va_calli (va_runV (As := []) (rest := [.int 1]) ⟨hx, hb, hml, hown, hts⟩ (k_X10_many l D cC cI cZ h0 h1 h8 h9 h10 h11 h4 h6 h12 h13 h14 h15 h16 h17 h18 h19 h20 h5 h7 h21 h2 h22 h23 h3 h24 h25 H.size ) (cwV (C := RX10) 0 hts (goodIn_app (goodIn_of _ (by decide +kernel)) gc_k_X10_before_k_X10_many) rfl rfl rfl (by decide +kernel) ⟨(Nat.le_of_ble_eq_true rfl), (Nat.le_of_ble_eq_true rfl)⟩) (kPreV hK hPc hDc (va_recv hK hPc (ci := 10) (q0 := 0) rfl rfl)) rfl rfl hl.1 rfl (lv_room (Nat.le_of_ble_eq_true rfl)) dX10_before_179 ⟨(Nat.le_of_ble_eq_true rfl), (Nat.le_of_ble_eq_true rfl)⟩) hS (fun q _ h => False.elim h) (fun q h => False.elim h) (fun r61 u t H1 locs ht hvm hw hB hz1 hk1 hS => ?_)
        have hP := hP.kept (H1 := H1) (fun k q hk => hk1 q.1 (hP k q hk).lt (fun h => h))
        generalize H1 = H at hP hS ⊢
        have hw : r61 = 1 := hw
        subst hw
        refine lv_icmp_ge (tgt := 223) hx hb dX10_before_182 (by decide) (fun _ => ?_) (fun c => absurd (by decide) c)
        refine lv_iinc (v := 3) (lv' := [(2, .int 3), (3, .int 1), (4, .int 0), (0, .ref h0), (1, .int 4)]) hx hb dX10_before_223 hl (k := 2) rfl (by decide) (by decide) rfl (fun ls hl => ?_)
        refine lv_goto (tgt := 65) hx hb dX10_before_226 (by decide) ?_
        refine lv_iload_n hx hb dX10_before_65 rfl (lv_at hl 0 rfl) ?_
        refine lv_iload_n hx hb dX10_before_66 rfl (lv_at hl 4 rfl) ?_
        refine lv_icmp_ge (tgt := 229) hx hb dX10_before_67 (by decide) (fun c => absurd c (by decide)) (fun _ => ?_)
        refine lv_iconst (v := 0) hx hb dX10_before_70 (by decide) ?_
        refine lv_istore_n (lv' := [(3, .int 0), (2, .int 3), (4, .int 0), (0, .ref h0), (1, .int 4)]) hx hb dX10_before_71 rfl hl (by decide) rfl (fun ls hl => ?_)
        refine lv_iload_n hx hb dX10_before_72 rfl (lv_at hl 0 rfl) ?_
        refine lv_aload_n hx hb dX10_before_73 rfl (lv_at hl 3 rfl) ?_
        have hPc := hP.sub (ws' := [(h0, .inr (10, [.ref h8, .ref h1, .ref h9, .ref h10, .ref h11, .ref h4, .ref h6, .int 0, .ref h12, .ref h13, .ref h14, .ref h15, .ref h16, .ref h17, .ref h18, .int 0, .int 0, .int 0, .ref h19, .ref h20, .int 0, .int 0, .int 0, .ref h5, .ref h7, .ref h21, .ref h2, .ref h22, .ref h23, .ref h3, .int 0, .ref h24, .int 0, .ref h25])), (h1, .inl (cI, 9, .inl (upd (upd (upd (fun _ => 0) (Int32.toNatClampNeg 3) 5) (Int32.toNatClampNeg 4) 9) (Int32.toNatClampNeg 7) 1)))]) [4, 3] rfl
        have hDc := hD.sub (ws' := [(h0, .inr (10, [.ref h8, .ref h1, .ref h9, .ref h10, .ref h11, .ref h4, .ref h6, .int 0, .ref h12, .ref h13, .ref h14, .ref h15, .ref h16, .ref h17, .ref h18, .int 0, .int 0, .int 0, .ref h19, .ref h20, .int 0, .int 0, .int 0, .ref h5, .ref h7, .ref h21, .ref h2, .ref h22, .ref h23, .ref h3, .int 0, .ref h24, .int 0, .ref h25])), (h1, .inl (cI, 9, .inl (upd (upd (upd (fun _ => 0) (Int32.toNatClampNeg 3) 5) (Int32.toNatClampNeg 4) 9) (Int32.toNatClampNeg 7) 1)))]) [4, 3] (by decide) rfl
        refine va_calli (va_runV (As := []) (rest := [.int 0]) ⟨hx, hb, hml, hown, hts⟩ (k_X10_many l D cC cI cZ h0 h1 h8 h9 h10 h11 h4 h6 h12 h13 h14 h15 h16 h17 h18 h19 h20 h5 h7 h21 h2 h22 h23 h3 h24 h25 H.size ) (cwV (C := RX10) 0 hts (goodIn_app (goodIn_of _ (by decide +kernel)) gc_k_X10_before_k_X10_many) rfl rfl rfl (by decide +kernel) ⟨(Nat.le_of_ble_eq_true rfl), (Nat.le_of_ble_eq_true rfl)⟩) (kPreV hK hPc hDc (va_recv hK hPc (ci := 10) (q0 := 0) rfl rfl)) rfl rfl hl.1 rfl (lv_room (Nat.le_of_ble_eq_true rfl)) dX10_before_74 ⟨(Nat.le_of_ble_eq_true rfl), (Nat.le_of_ble_eq_true rfl)⟩) hS (fun q _ h => False.elim h) (fun q h => False.elim h) (fun r62 u t H1 locs ht hvm hw hB hz1 hk1 hS => ?_)
        have hP := hP.kept (H1 := H1) (fun k q hk => hk1 q.1 (hP k q hk).lt (fun h => h))
        generalize H1 = H at hP hS ⊢
        have hw : r62 = 1 := hw
        subst hw
        refine lv_icmp_ge (tgt := 175) hx hb dX10_before_77 (by decide) (fun c => absurd c (by decide)) (fun _ => ?_)
        refine lv_iconst (v := 0) hx hb dX10_before_80 (by decide) ?_
        refine lv_istore (lv' := [(4, .int 0), (3, .int 0), (2, .int 3), (0, .ref h0), (1, .int 4)]) hx hb dX10_before_81 hl (by decide) rfl (fun ls hl => ?_)
        refine lv_iload hx hb dX10_before_83 (lv_at hl 0 rfl) ?_
        refine lv_aload_n hx hb dX10_before_85 rfl (lv_at hl 3 rfl) ?_
        refine va_get (D := D) (ci := 10) (v := .ref h1) (C := RX10) (T := TX10) (N := 34) hx hb hts iw_k_X10_before_X10 hown hK hP 4 rfl rfl 1 (by decide) (hts (.fieldLink RX10 13 "TopTurnedModel" "told" "[I") (by decide +kernel)) (fun _ h9 => h9) rfl dX10_before_86 ?_
        refine lv_iconst (v := 0) hx hb dX10_before_89 (by decide) ?_
        refine va_iald (i := 0) hx hb hK hP 3 1 rfl rfl (vp_in_iff.mpr (by decide)) dX10_before_90 ?_
        refine kt_eq (y := 0) (by decide +kernel) ?_
        refine lv_icmp_ge (tgt := 169) hx hb dX10_before_91 (by decide) (fun _ => ?_) (fun c => absurd (by decide) c)
        refine lv_iinc (v := 1) (lv' := [(3, .int 1), (4, .int 0), (2, .int 3), (0, .ref h0), (1, .int 4)]) hx hb dX10_before_169 hl (k := 1) rfl (by decide) (by decide) rfl (fun ls hl => ?_)
        refine lv_goto (tgt := 72) hx hb dX10_before_172 (by decide) ?_
        refine lv_iload_n hx hb dX10_before_72 rfl (lv_at hl 0 rfl) ?_
        refine lv_aload_n hx hb dX10_before_73 rfl (lv_at hl 3 rfl) ?_
        have hPc := hP.sub (ws' := [(h0, .inr (10, [.ref h8, .ref h1, .ref h9, .ref h10, .ref h11, .ref h4, .ref h6, .int 0, .ref h12, .ref h13, .ref h14, .ref h15, .ref h16, .ref h17, .ref h18, .int 0, .int 0, .int 0, .ref h19, .ref h20, .int 0, .int 0, .int 0, .ref h5, .ref h7, .ref h21, .ref h2, .ref h22, .ref h23, .ref h3, .int 0, .ref h24, .int 0, .ref h25])), (h1, .inl (cI, 9, .inl (upd (upd (upd (fun _ => 0) (Int32.toNatClampNeg 3) 5) (Int32.toNatClampNeg 4) 9) (Int32.toNatClampNeg 7) 1)))]) [4, 3] rfl
        have hDc := hD.sub (ws' := [(h0, .inr (10, [.ref h8, .ref h1, .ref h9, .ref h10, .ref h11, .ref h4, .ref h6, .int 0, .ref h12, .ref h13, .ref h14, .ref h15, .ref h16, .ref h17, .ref h18, .int 0, .int 0, .int 0, .ref h19, .ref h20, .int 0, .int 0, .int 0, .ref h5, .ref h7, .ref h21, .ref h2, .ref h22, .ref h23, .ref h3, .int 0, .ref h24, .int 0, .ref h25])), (h1, .inl (cI, 9, .inl (upd (upd (upd (fun _ => 0) (Int32.toNatClampNeg 3) 5) (Int32.toNatClampNeg 4) 9) (Int32.toNatClampNeg 7) 1)))]) [4, 3] (by decide) rfl
        refine va_calli (va_runV (As := []) (rest := [.int 1]) ⟨hx, hb, hml, hown, hts⟩ (k_X10_many l D cC cI cZ h0 h1 h8 h9 h10 h11 h4 h6 h12 h13 h14 h15 h16 h17 h18 h19 h20 h5 h7 h21 h2 h22 h23 h3 h24 h25 H.size ) (cwV (C := RX10) 0 hts (goodIn_app (goodIn_of _ (by decide +kernel)) gc_k_X10_before_k_X10_many) rfl rfl rfl (by decide +kernel) ⟨(Nat.le_of_ble_eq_true rfl), (Nat.le_of_ble_eq_true rfl)⟩) (kPreV hK hPc hDc (va_recv hK hPc (ci := 10) (q0 := 0) rfl rfl)) rfl rfl hl.1 rfl (lv_room (Nat.le_of_ble_eq_true rfl)) dX10_before_74 ⟨(Nat.le_of_ble_eq_true rfl), (Nat.le_of_ble_eq_true rfl)⟩) hS (fun q _ h => False.elim h) (fun q h => False.elim h) (fun r63 u t H1 locs ht hvm hw hB hz1 hk1 hS => ?_)
        have hP := hP.kept (H1 := H1) (fun k q hk => hk1 q.1 (hP k q hk).lt (fun h => h))
        generalize H1 = H at hP hS ⊢
        have hw : r63 = 1 := hw
        subst hw
        refine lv_icmp_ge (tgt := 175) hx hb dX10_before_77 (by decide) (fun _ => ?_) (fun c => absurd (by decide) c)
        refine lv_iconst (v := 0) hx hb dX10_before_175 (by decide) ?_
        refine lv_istore_n (lv' := [(3, .int 0), (4, .int 0), (2, .int 3), (0, .ref h0), (1, .int 4)]) hx hb dX10_before_176 rfl hl (by decide) rfl (fun ls hl => ?_)
        refine lv_iload_n hx hb dX10_before_177 rfl (lv_at hl 0 rfl) ?_
        refine lv_aload_n hx hb dX10_before_178 rfl (lv_at hl 3 rfl) ?_
        have hPc := hP.sub (ws' := [(h0, .inr (10, [.ref h8, .ref h1, .ref h9, .ref h10, .ref h11, .ref h4, .ref h6, .int 0, .ref h12, .ref h13, .ref h14, .ref h15, .ref h16, .ref h17, .ref h18, .int 0, .int 0, .int 0, .ref h19, .ref h20, .int 0, .int 0, .int 0, .ref h5, .ref h7, .ref h21, .ref h2, .ref h22, .ref h23, .ref h3, .int 0, .ref h24, .int 0, .ref h25])), (h1, .inl (cI, 9, .inl (upd (upd (upd (fun _ => 0) (Int32.toNatClampNeg 3) 5) (Int32.toNatClampNeg 4) 9) (Int32.toNatClampNeg 7) 1)))]) [4, 3] rfl
        have hDc := hD.sub (ws' := [(h0, .inr (10, [.ref h8, .ref h1, .ref h9, .ref h10, .ref h11, .ref h4, .ref h6, .int 0, .ref h12, .ref h13, .ref h14, .ref h15, .ref h16, .ref h17, .ref h18, .int 0, .int 0, .int 0, .ref h19, .ref h20, .int 0, .int 0, .int 0, .ref h5, .ref h7, .ref h21, .ref h2, .ref h22, .ref h23, .ref h3, .int 0, .ref h24, .int 0, .ref h25])), (h1, .inl (cI, 9, .inl (upd (upd (upd (fun _ => 0) (Int32.toNatClampNeg 3) 5) (Int32.toNatClampNeg 4) 9) (Int32.toNatClampNeg 7) 1)))]) [4, 3] (by decide) rfl
        refine va_calli (va_runV (As := []) (rest := [.int 0]) ⟨hx, hb, hml, hown, hts⟩ (k_X10_many l D cC cI cZ h0 h1 h8 h9 h10 h11 h4 h6 h12 h13 h14 h15 h16 h17 h18 h19 h20 h5 h7 h21 h2 h22 h23 h3 h24 h25 H.size ) (cwV (C := RX10) 0 hts (goodIn_app (goodIn_of _ (by decide +kernel)) gc_k_X10_before_k_X10_many) rfl rfl rfl (by decide +kernel) ⟨(Nat.le_of_ble_eq_true rfl), (Nat.le_of_ble_eq_true rfl)⟩) (kPreV hK hPc hDc (va_recv hK hPc (ci := 10) (q0 := 0) rfl rfl)) rfl rfl hl.1 rfl (lv_room (Nat.le_of_ble_eq_true rfl)) dX10_before_179 ⟨(Nat.le_of_ble_eq_true rfl), (Nat.le_of_ble_eq_true rfl)⟩) hS (fun q _ h => False.elim h) (fun q h => False.elim h) (fun r64 u t H1 locs ht hvm hw hB hz1 hk1 hS => ?_)
        have hP := hP.kept (H1 := H1) (fun k q hk => hk1 q.1 (hP k q hk).lt (fun h => h))
        generalize H1 = H at hP hS ⊢
        have hw : r64 = 1 := hw
        subst hw
        refine lv_icmp_ge (tgt := 223) hx hb dX10_before_182 (by decide) (fun c => absurd c (by decide)) (fun _ => ?_)
        refine lv_aload_n hx hb dX10_before_185 rfl (lv_at hl 3 rfl) ?_
        refine va_get (D := D) (ci := 10) (v := .ref h2) (C := RX10) (T := TX10) (N := 34) hx hb hts iw_k_X10_before_X10 hown hK hP 4 rfl rfl 26 (by decide) (hts (.fieldLink RX10 68 "TopTurnedModel" "far" "[I") (by decide +kernel)) (fun _ h9 => h9) rfl dX10_before_186 ?_
        refine lv_iload_n hx hb dX10_before_189 rfl (lv_at hl 0 rfl) ?_
        refine lv_aload_n hx hb dX10_before_190 rfl (lv_at hl 3 rfl) ?_
        refine va_get (D := D) (ci := 10) (v := .ref h3) (C := RX10) (T := TX10) (N := 34) hx hb hts iw_k_X10_before_X10 hown hK hP 4 rfl rfl 29 (by decide) (hts (.fieldLink RX10 77 "TopTurnedModel" "line" "[I") (by decide +kernel)) (fun _ h9 => h9) rfl dX10_before_191 ?_
        refine lv_iload_n hx hb dX10_before_194 rfl (lv_at hl 0 rfl) ?_
        refine va_iald (i := 0) hx hb hK hP 1 1 rfl rfl (vp_in_iff.mpr (by decide)) dX10_before_195 ?_
        refine kt_eq (y := 0) (by decide +kernel) ?_
        refine lv_iload_n hx hb dX10_before_196 rfl (lv_at hl 2 rfl) ?_
        refine lv_iconst (v := 1) hx hb dX10_before_197 (by decide) ?_
        refine lv_iadd hx hb dX10_before_198 ?_
        refine kt_eq (y := 4) (by decide +kernel) ?_
        refine lv_icmp_ne (tgt := 208) hx hb dX10_before_199 (by decide) (fun _ => ?_) (fun c => absurd c (by decide))
        refine lv_iconst (v := (-1)) hx hb dX10_before_208 (by decide) ?_
        refine kn_iastS (i := 0) (x := (-1)) hx hb hK hP hD hS 0 1 rfl rfl (vp_in_iff.mpr (by decide)) (by decide +kernel) dX10_before_209 (fun H locs hP hD hS => ?_)
        refine lv_aload_n hx hb dX10_before_210 rfl (lv_at hl 3 rfl) ?_
        refine va_get (D := D) (ci := 10) (v := .ref h3) (C := RX10) (T := TX10) (N := 34) hx hb hts iw_k_X10_before_X10 hown hK hP 4 rfl rfl 29 (by decide) (hts (.fieldLink RX10 77 "TopTurnedModel" "line" "[I") (by decide +kernel)) (fun _ h9 => h9) rfl dX10_before_211 ?_
        refine lv_iload_n hx hb dX10_before_214 rfl (lv_at hl 0 rfl) ?_
        refine lv_iconst (v := 0) hx hb dX10_before_215 (by decide) ?_
        refine kn_iastS (i := 0) (x := 0) hx hb hK hP hD hS 1 1 rfl rfl (vp_in_iff.mpr (by decide)) (by decide +kernel) dX10_before_216 (fun H locs hP hD hS => ?_)
        refine lv_iinc (v := 1) (lv' := [(3, .int 1), (4, .int 0), (2, .int 3), (0, .ref h0), (1, .int 4)]) hx hb dX10_before_217 hl (k := 0) rfl (by decide) (by decide) rfl (fun ls hl => ?_)
        refine lv_goto (tgt := 177) hx hb dX10_before_220 (by decide) ?_
        refine lv_iload_n hx hb dX10_before_177 rfl (lv_at hl 0 rfl) ?_
        refine lv_aload_n hx hb dX10_before_178 rfl (lv_at hl 3 rfl) ?_
        have hPc := hP.sub (ws' := [(h0, .inr (10, [.ref h8, .ref h1, .ref h9, .ref h10, .ref h11, .ref h4, .ref h6, .int 0, .ref h12, .ref h13, .ref h14, .ref h15, .ref h16, .ref h17, .ref h18, .int 0, .int 0, .int 0, .ref h19, .ref h20, .int 0, .int 0, .int 0, .ref h5, .ref h7, .ref h21, .ref h2, .ref h22, .ref h23, .ref h3, .int 0, .ref h24, .int 0, .ref h25])), (h1, .inl (cI, 9, .inl (upd (upd (upd (fun _ => 0) (Int32.toNatClampNeg 3) 5) (Int32.toNatClampNeg 4) 9) (Int32.toNatClampNeg 7) 1)))]) [4, 3] rfl
        have hDc := hD.sub (ws' := [(h0, .inr (10, [.ref h8, .ref h1, .ref h9, .ref h10, .ref h11, .ref h4, .ref h6, .int 0, .ref h12, .ref h13, .ref h14, .ref h15, .ref h16, .ref h17, .ref h18, .int 0, .int 0, .int 0, .ref h19, .ref h20, .int 0, .int 0, .int 0, .ref h5, .ref h7, .ref h21, .ref h2, .ref h22, .ref h23, .ref h3, .int 0, .ref h24, .int 0, .ref h25])), (h1, .inl (cI, 9, .inl (upd (upd (upd (fun _ => 0) (Int32.toNatClampNeg 3) 5) (Int32.toNatClampNeg 4) 9) (Int32.toNatClampNeg 7) 1)))]) [4, 3] (by decide) rfl
        refine va_calli (va_runV (As := []) (rest := [.int 1]) ⟨hx, hb, hml, hown, hts⟩ (k_X10_many l D cC cI cZ h0 h1 h8 h9 h10 h11 h4 h6 h12 h13 h14 h15 h16 h17 h18 h19 h20 h5 h7 h21 h2 h22 h23 h3 h24 h25 H.size ) (cwV (C := RX10) 0 hts (goodIn_app (goodIn_of _ (by decide +kernel)) gc_k_X10_before_k_X10_many) rfl rfl rfl (by decide +kernel) ⟨(Nat.le_of_ble_eq_true rfl), (Nat.le_of_ble_eq_true rfl)⟩) (kPreV hK hPc hDc (va_recv hK hPc (ci := 10) (q0 := 0) rfl rfl)) rfl rfl hl.1 rfl (lv_room (Nat.le_of_ble_eq_true rfl)) dX10_before_179 ⟨(Nat.le_of_ble_eq_true rfl), (Nat.le_of_ble_eq_true rfl)⟩) hS (fun q _ h => False.elim h) (fun q h => False.elim h) (fun r65 u t H1 locs ht hvm hw hB hz1 hk1 hS => ?_)
        have hP := hP.kept (H1 := H1) (fun k q hk => hk1 q.1 (hP k q hk).lt (fun h => h))
        generalize H1 = H at hP hS ⊢
        have hw : r65 = 1 := hw
        subst hw
        refine lv_icmp_ge (tgt := 223) hx hb dX10_before_182 (by decide) (fun _ => ?_) (fun c => absurd (by decide) c)
        refine lv_iinc (v := 4) (lv' := [(2, .int 4), (3, .int 1), (4, .int 0), (0, .ref h0), (1, .int 4)]) hx hb dX10_before_223 hl (k := 2) rfl (by decide) (by decide) rfl (fun ls hl => ?_)
        refine lv_goto (tgt := 65) hx hb dX10_before_226 (by decide) ?_
        refine lv_iload_n hx hb dX10_before_65 rfl (lv_at hl 0 rfl) ?_
        refine lv_iload_n hx hb dX10_before_66 rfl (lv_at hl 4 rfl) ?_
        refine lv_icmp_ge (tgt := 229) hx hb dX10_before_67 (by decide) (fun _ => ?_) (fun c => absurd (by decide) c)
        refine lv_iconst (v := 0) hx hb dX10_before_229 (by decide) ?_
        refine lv_istore_n (lv' := [(2, .int 0), (3, .int 1), (4, .int 0), (0, .ref h0), (1, .int 4)]) hx hb dX10_before_230 rfl hl (by decide) rfl (fun ls hl => ?_)
        refine lv_iconst (v := 0) hx hb dX10_before_231 (by decide) ?_
        refine lv_istore_n (lv' := [(3, .int 0), (2, .int 0), (4, .int 0), (0, .ref h0), (1, .int 4)]) hx hb dX10_before_232 rfl hl (by decide) rfl (fun ls hl => ?_)
        refine lv_iload_n hx hb dX10_before_233 rfl (lv_at hl 0 rfl) ?_
        refine lv_aload_n hx hb dX10_before_234 rfl (lv_at hl 3 rfl) ?_
        have hPc := hP.sub (ws' := [(h0, .inr (10, [.ref h8, .ref h1, .ref h9, .ref h10, .ref h11, .ref h4, .ref h6, .int 0, .ref h12, .ref h13, .ref h14, .ref h15, .ref h16, .ref h17, .ref h18, .int 0, .int 0, .int 0, .ref h19, .ref h20, .int 0, .int 0, .int 0, .ref h5, .ref h7, .ref h21, .ref h2, .ref h22, .ref h23, .ref h3, .int 0, .ref h24, .int 0, .ref h25])), (h1, .inl (cI, 9, .inl (upd (upd (upd (fun _ => 0) (Int32.toNatClampNeg 3) 5) (Int32.toNatClampNeg 4) 9) (Int32.toNatClampNeg 7) 1)))]) [4, 3] rfl
        have hDc := hD.sub (ws' := [(h0, .inr (10, [.ref h8, .ref h1, .ref h9, .ref h10, .ref h11, .ref h4, .ref h6, .int 0, .ref h12, .ref h13, .ref h14, .ref h15, .ref h16, .ref h17, .ref h18, .int 0, .int 0, .int 0, .ref h19, .ref h20, .int 0, .int 0, .int 0, .ref h5, .ref h7, .ref h21, .ref h2, .ref h22, .ref h23, .ref h3, .int 0, .ref h24, .int 0, .ref h25])), (h1, .inl (cI, 9, .inl (upd (upd (upd (fun _ => 0) (Int32.toNatClampNeg 3) 5) (Int32.toNatClampNeg 4) 9) (Int32.toNatClampNeg 7) 1)))]) [4, 3] (by decide) rfl
        refine va_calli (va_runV (As := []) (rest := [.int 0]) ⟨hx, hb, hml, hown, hts⟩ (k_X10_many l D cC cI cZ h0 h1 h8 h9 h10 h11 h4 h6 h12 h13 h14 h15 h16 h17 h18 h19 h20 h5 h7 h21 h2 h22 h23 h3 h24 h25 H.size ) (cwV (C := RX10) 0 hts (goodIn_app (goodIn_of _ (by decide +kernel)) gc_k_X10_before_k_X10_many) rfl rfl rfl (by decide +kernel) ⟨(Nat.le_of_ble_eq_true rfl), (Nat.le_of_ble_eq_true rfl)⟩) (kPreV hK hPc hDc (va_recv hK hPc (ci := 10) (q0 := 0) rfl rfl)) rfl rfl hl.1 rfl (lv_room (Nat.le_of_ble_eq_true rfl)) dX10_before_235 ⟨(Nat.le_of_ble_eq_true rfl), (Nat.le_of_ble_eq_true rfl)⟩) hS (fun q _ h => False.elim h) (fun q h => False.elim h) (fun r66 u t H1 locs ht hvm hw hB hz1 hk1 hS => ?_)
        have hP := hP.kept (H1 := H1) (fun k q hk => hk1 q.1 (hP k q hk).lt (fun h => h))
        generalize H1 = H at hP hS ⊢
        have hw : r66 = 1 := hw
        subst hw
        refine lv_icmp_ge (tgt := 265) hx hb dX10_before_238 (by decide) (fun c => absurd c (by decide)) (fun _ => ?_)
        refine lv_iload_n hx hb dX10_before_241 rfl (lv_at hl 1 rfl) ?_
        refine lv_aload_n hx hb dX10_before_242 rfl (lv_at hl 3 rfl) ?_
        refine va_get (D := D) (ci := 10) (v := .ref h2) (C := RX10) (T := TX10) (N := 34) hx hb hts iw_k_X10_before_X10 hown hK hP 4 rfl rfl 26 (by decide) (hts (.fieldLink RX10 68 "TopTurnedModel" "far" "[I") (by decide +kernel)) (fun _ h9 => h9) rfl dX10_before_243 ?_
        refine lv_iload_n hx hb dX10_before_246 rfl (lv_at hl 0 rfl) ?_
        refine va_iald (i := 0) hx hb hK hP 0 1 rfl rfl (vp_in_iff.mpr (by decide)) dX10_before_247 ?_
        refine kt_eq (y := (-1)) (by decide +kernel) ?_
        refine lv_iload_n hx hb dX10_before_248 rfl (lv_at hl 4 rfl) ?_
        refine lv_icmp_ne (tgt := 256) hx hb dX10_before_249 (by decide) (fun _ => ?_) (fun c => absurd c (by decide))
        refine lv_iconst (v := 0) hx hb dX10_before_256 (by decide) ?_
        refine lv_iadd hx hb dX10_before_257 ?_
        refine kt_eq (y := 0) (by decide +kernel) ?_
        refine lv_istore_n (lv' := [(2, .int 0), (3, .int 0), (4, .int 0), (0, .ref h0), (1, .int 4)]) hx hb dX10_before_258 rfl hl (by decide) rfl (fun ls hl => ?_)
        refine lv_iinc (v := 1) (lv' := [(3, .int 1), (2, .int 0), (4, .int 0), (0, .ref h0), (1, .int 4)]) hx hb dX10_before_259 hl (k := 1) rfl (by decide) (by decide) rfl (fun ls hl => ?_)
        refine lv_goto (tgt := 233) hx hb dX10_before_262 (by decide) ?_
        refine lv_iload_n hx hb dX10_before_233 rfl (lv_at hl 0 rfl) ?_
        refine lv_aload_n hx hb dX10_before_234 rfl (lv_at hl 3 rfl) ?_
        have hPc := hP.sub (ws' := [(h0, .inr (10, [.ref h8, .ref h1, .ref h9, .ref h10, .ref h11, .ref h4, .ref h6, .int 0, .ref h12, .ref h13, .ref h14, .ref h15, .ref h16, .ref h17, .ref h18, .int 0, .int 0, .int 0, .ref h19, .ref h20, .int 0, .int 0, .int 0, .ref h5, .ref h7, .ref h21, .ref h2, .ref h22, .ref h23, .ref h3, .int 0, .ref h24, .int 0, .ref h25])), (h1, .inl (cI, 9, .inl (upd (upd (upd (fun _ => 0) (Int32.toNatClampNeg 3) 5) (Int32.toNatClampNeg 4) 9) (Int32.toNatClampNeg 7) 1)))]) [4, 3] rfl
        have hDc := hD.sub (ws' := [(h0, .inr (10, [.ref h8, .ref h1, .ref h9, .ref h10, .ref h11, .ref h4, .ref h6, .int 0, .ref h12, .ref h13, .ref h14, .ref h15, .ref h16, .ref h17, .ref h18, .int 0, .int 0, .int 0, .ref h19, .ref h20, .int 0, .int 0, .int 0, .ref h5, .ref h7, .ref h21, .ref h2, .ref h22, .ref h23, .ref h3, .int 0, .ref h24, .int 0, .ref h25])), (h1, .inl (cI, 9, .inl (upd (upd (upd (fun _ => 0) (Int32.toNatClampNeg 3) 5) (Int32.toNatClampNeg 4) 9) (Int32.toNatClampNeg 7) 1)))]) [4, 3] (by decide) rfl
        refine va_calli (va_runV (As := []) (rest := [.int 1]) ⟨hx, hb, hml, hown, hts⟩ (k_X10_many l D cC cI cZ h0 h1 h8 h9 h10 h11 h4 h6 h12 h13 h14 h15 h16 h17 h18 h19 h20 h5 h7 h21 h2 h22 h23 h3 h24 h25 H.size ) (cwV (C := RX10) 0 hts (goodIn_app (goodIn_of _ (by decide +kernel)) gc_k_X10_before_k_X10_many) rfl rfl rfl (by decide +kernel) ⟨(Nat.le_of_ble_eq_true rfl), (Nat.le_of_ble_eq_true rfl)⟩) (kPreV hK hPc hDc (va_recv hK hPc (ci := 10) (q0 := 0) rfl rfl)) rfl rfl hl.1 rfl (lv_room (Nat.le_of_ble_eq_true rfl)) dX10_before_235 ⟨(Nat.le_of_ble_eq_true rfl), (Nat.le_of_ble_eq_true rfl)⟩) hS (fun q _ h => False.elim h) (fun q h => False.elim h) (fun r67 u t H1 locs ht hvm hw hB hz1 hk1 hS => ?_)
        have hP := hP.kept (H1 := H1) (fun k q hk => hk1 q.1 (hP k q hk).lt (fun h => h))
        generalize H1 = H at hP hS ⊢
        have hw : r67 = 1 := hw
        subst hw
        refine lv_icmp_ge (tgt := 265) hx hb dX10_before_238 (by decide) (fun _ => ?_) (fun c => absurd (by decide) c)
        refine lv_iload_n hx hb dX10_before_265 rfl (lv_at hl 1 rfl) ?_
        refine W.widen (k := 0) (n := 0) (Nat.le_of_ble_eq_true rfl) (Nat.le_of_ble_eq_true rfl) ?_
        exact W.iret (v := 0) hx hb hr (fun t ht hW => ⟨⟨0, (), rfl, (by decide), trivial⟩, hS.F ht⟩) hS.2.2 dX10_before_266
    · refine lv_aload_n hx hb dX10_before_16 rfl (lv_at hl 0 rfl) ?_
      refine lv_bipush (v := (-6)) hx hb dX10_before_17 (by decide) ?_
      have hPc := hP.sub (ws' := [(h0, .inr (10, [.ref h8, .ref h1, .ref h9, .ref h10, .ref h11, .ref h4, .ref h6, .int 0, .ref h12, .ref h13, .ref h14, .ref h15, .ref h16, .ref h17, .ref h18, .int 0, .int 0, .int 0, .ref h19, .ref h20, .int 0, .int 0, .int 0, .ref h5, .ref h7, .ref h21, .ref h2, .ref h22, .ref h23, .ref h3, .int 0, .ref h24, .int 0, .ref h25])), (h8, .inl (cI, 7, .inl (fun _ => 0)))]) [0, 8] rfl
      have hDc := hD.sub (ws' := [(h0, .inr (10, [.ref h8, .ref h1, .ref h9, .ref h10, .ref h11, .ref h4, .ref h6, .int 0, .ref h12, .ref h13, .ref h14, .ref h15, .ref h16, .ref h17, .ref h18, .int 0, .int 0, .int 0, .ref h19, .ref h20, .int 0, .int 0, .int 0, .ref h5, .ref h7, .ref h21, .ref h2, .ref h22, .ref h23, .ref h3, .int 0, .ref h24, .int 0, .ref h25])), (h8, .inl (cI, 7, .inl (fun _ => 0)))]) [0, 8] (by decide) rfl
      have hFc := va_free (wc := [(h0, .inr (10, [.ref h8, .ref h1, .ref h9, .ref h10, .ref h11, .ref h4, .ref h6, .int 0, .ref h12, .ref h13, .ref h14, .ref h15, .ref h16, .ref h17, .ref h18, .int 0, .int 0, .int 0, .ref h19, .ref h20, .int 0, .int 0, .int 0, .ref h5, .ref h7, .ref h21, .ref h2, .ref h22, .ref h23, .ref h3, .int 0, .ref h24, .int 0, .ref h25])), (h8, .inl (cI, 7, .inl (fun _ => 0)))]) hD hS hA [0, 8] rfl
      refine va_calli (va_runV (As := [.int (-6)]) (rest := []) ⟨hx, hb, hml, hown, hts⟩ (k_X10_no l D cC cI cZ h0 h8 h1 h9 h10 h11 h4 h6 h12 h13 h14 h15 h16 h17 h18 h19 h20 h5 h7 h21 h2 h22 h23 h3 h24 h25 s.heap.size ) (cwV (C := RX10) 1 hts (goodIn_app (goodIn_of _ (by decide +kernel)) gc_k_X10_before_k_X10_no) rfl rfl rfl (by decide +kernel) ⟨(Nat.le_of_ble_eq_true rfl), (Nat.le_of_ble_eq_true rfl)⟩) (kPreV hK hPc hDc (va_recv hK hPc (ci := 10) (q0 := 0) rfl rfl)) rfl rfl hl.1 rfl (lv_room (Nat.le_of_ble_eq_true rfl)) dX10_before_19 ⟨(Nat.le_of_ble_eq_true rfl), (Nat.le_of_ble_eq_true rfl)⟩) hS (fun q _ h => hFc q h) hFc (fun r68 u t H1 locs ht hvm hw hB hz1 hk1 hS => ?_)
      obtain ⟨hP1, hD1⟩ := hB
      rw [ht] at hP1
      obtain ⟨hP, hD⟩ := va_join (wr := [(h1, .inl (cI, 9, .inl (upd (upd (upd (fun _ => 0) (Int32.toNatClampNeg 3) 5) (Int32.toNatClampNeg 4) 9) (Int32.toNatClampNeg 7) 1))), (h2, .inl (cI, 3840, .inl (fun _ => 0))), (h3, .inl (cI, 3840, .inl (fun _ => 0))), (h4, .inl (cI, 5, .inl (fun _ => 0))), (h5, .inl (cI, 5, .inl (fun _ => 0))), (h6, .inl (cI, 5, .inl (fun _ => 0))), (h7, .inl (cI, 5, .inl (fun _ => 0)))]) (w1 := [(h0, .inr (10, [.ref h8, .ref h1, .ref h9, .ref h10, .ref h11, .ref h4, .ref h6, .int 0, .ref h12, .ref h13, .ref h14, .ref h15, .ref h16, .ref h17, .ref h18, .int 0, .int 0, .int 0, .ref h19, .ref h20, .int 0, .int 0, .int 0, .ref h5, .ref h7, .ref h21, .ref h2, .ref h22, .ref h23, .ref h3, .int 0, .ref h24, .int 0, .ref h25])), (h8, .inl (cI, 7, .inl (upd (fun _ => 0) (Int32.toNatClampNeg 6) 1)))]) hP hD [0, 8] [1, 2, 3, 4, 5, 6, 7] rfl rfl (by decide) (by decide) hk1 hFc hP1 hD1
      generalize H1 = H at hP hS ⊢
      have hP : va_P D vwCl [(h1, .inl (cI, 9, .inl (upd (upd (upd (fun _ => 0) (Int32.toNatClampNeg 3) 5) (Int32.toNatClampNeg 4) 9) (Int32.toNatClampNeg 7) 1))), (h2, .inl (cI, 3840, .inl (fun _ => 0))), (h3, .inl (cI, 3840, .inl (fun _ => 0))), (h4, .inl (cI, 5, .inl (fun _ => 0))), (h5, .inl (cI, 5, .inl (fun _ => 0))), (h6, .inl (cI, 5, .inl (fun _ => 0))), (h7, .inl (cI, 5, .inl (fun _ => 0))), (h0, .inr (10, [.ref h8, .ref h1, .ref h9, .ref h10, .ref h11, .ref h4, .ref h6, .int 0, .ref h12, .ref h13, .ref h14, .ref h15, .ref h16, .ref h17, .ref h18, .int 0, .int 0, .int 0, .ref h19, .ref h20, .int 0, .int 0, .int 0, .ref h5, .ref h7, .ref h21, .ref h2, .ref h22, .ref h23, .ref h3, .int 0, .ref h24, .int 0, .ref h25])), (h8, .inl (cI, 7, .inl (upd (fun _ => 0) (Int32.toNatClampNeg 6) 1)))] H := hP
      have hD : va_D A [(h1, .inl (cI, 9, .inl (upd (upd (upd (fun _ => 0) (Int32.toNatClampNeg 3) 5) (Int32.toNatClampNeg 4) 9) (Int32.toNatClampNeg 7) 1))), (h2, .inl (cI, 3840, .inl (fun _ => 0))), (h3, .inl (cI, 3840, .inl (fun _ => 0))), (h4, .inl (cI, 5, .inl (fun _ => 0))), (h5, .inl (cI, 5, .inl (fun _ => 0))), (h6, .inl (cI, 5, .inl (fun _ => 0))), (h7, .inl (cI, 5, .inl (fun _ => 0))), (h0, .inr (10, [.ref h8, .ref h1, .ref h9, .ref h10, .ref h11, .ref h4, .ref h6, .int 0, .ref h12, .ref h13, .ref h14, .ref h15, .ref h16, .ref h17, .ref h18, .int 0, .int 0, .int 0, .ref h19, .ref h20, .int 0, .int 0, .int 0, .ref h5, .ref h7, .ref h21, .ref h2, .ref h22, .ref h23, .ref h3, .int 0, .ref h24, .int 0, .ref h25])), (h8, .inl (cI, 7, .inl (upd (fun _ => 0) (Int32.toNatClampNeg 6) 1)))] := hD
      have hw : r68 = (-6) := hw
      subst hw
      refine W.widen (k := 0) (n := 0) (Nat.le_of_ble_eq_true rfl) (Nat.le_of_ble_eq_true rfl) ?_
      exact W.iret (v := (-6)) hx hb hr (fun t ht hW => ⟨⟨(-6), (), rfl, (by rw [if_pos c1, if_neg c2]), trivial⟩, hS.F ht⟩) hS.2.2 dX10_before_22
  · refine lv_aload_n hx hb dX10_before_4 rfl (lv_at hl 0 rfl) ?_
    refine lv_bipush (v := (-4)) hx hb dX10_before_5 (by decide) ?_
    have hPc := hP.sub (ws' := [(h0, .inr (10, [.ref h8, .ref h1, .ref h9, .ref h10, .ref h11, .ref h4, .ref h6, .int 0, .ref h12, .ref h13, .ref h14, .ref h15, .ref h16, .ref h17, .ref h18, .int 0, .int 0, .int 0, .ref h19, .ref h20, .int 0, .int 0, .int 0, .ref h5, .ref h7, .ref h21, .ref h2, .ref h22, .ref h23, .ref h3, .int 0, .ref h24, .int 0, .ref h25])), (h8, .inl (cI, 7, .inl (fun _ => 0)))]) [0, 8] rfl
    have hDc := hD.sub (ws' := [(h0, .inr (10, [.ref h8, .ref h1, .ref h9, .ref h10, .ref h11, .ref h4, .ref h6, .int 0, .ref h12, .ref h13, .ref h14, .ref h15, .ref h16, .ref h17, .ref h18, .int 0, .int 0, .int 0, .ref h19, .ref h20, .int 0, .int 0, .int 0, .ref h5, .ref h7, .ref h21, .ref h2, .ref h22, .ref h23, .ref h3, .int 0, .ref h24, .int 0, .ref h25])), (h8, .inl (cI, 7, .inl (fun _ => 0)))]) [0, 8] (by decide) rfl
    have hFc := va_free (wc := [(h0, .inr (10, [.ref h8, .ref h1, .ref h9, .ref h10, .ref h11, .ref h4, .ref h6, .int 0, .ref h12, .ref h13, .ref h14, .ref h15, .ref h16, .ref h17, .ref h18, .int 0, .int 0, .int 0, .ref h19, .ref h20, .int 0, .int 0, .int 0, .ref h5, .ref h7, .ref h21, .ref h2, .ref h22, .ref h23, .ref h3, .int 0, .ref h24, .int 0, .ref h25])), (h8, .inl (cI, 7, .inl (fun _ => 0)))]) hD hS hA [0, 8] rfl
    refine va_calli (va_runV (As := [.int (-4)]) (rest := []) ⟨hx, hb, hml, hown, hts⟩ (k_X10_no_1 l D cC cI cZ h0 h8 h1 h9 h10 h11 h4 h6 h12 h13 h14 h15 h16 h17 h18 h19 h20 h5 h7 h21 h2 h22 h23 h3 h24 h25 s.heap.size ) (cwV (C := RX10) 1 hts (goodIn_app (goodIn_of _ (by decide +kernel)) gc_k_X10_before_k_X10_no_1) rfl rfl rfl (by decide +kernel) ⟨(Nat.le_of_ble_eq_true rfl), (Nat.le_of_ble_eq_true rfl)⟩) (kPreV hK hPc hDc (va_recv hK hPc (ci := 10) (q0 := 0) rfl rfl)) rfl rfl hl.1 rfl (lv_room (Nat.le_of_ble_eq_true rfl)) dX10_before_7 ⟨(Nat.le_of_ble_eq_true rfl), (Nat.le_of_ble_eq_true rfl)⟩) hS (fun q _ h => hFc q h) hFc (fun r69 u t H1 locs ht hvm hw hB hz1 hk1 hS => ?_)
    obtain ⟨hP1, hD1⟩ := hB
    rw [ht] at hP1
    obtain ⟨hP, hD⟩ := va_join (wr := [(h1, .inl (cI, 9, .inl (upd (upd (upd (fun _ => 0) (Int32.toNatClampNeg 3) 5) (Int32.toNatClampNeg 4) 9) (Int32.toNatClampNeg 7) 1))), (h2, .inl (cI, 3840, .inl (fun _ => 0))), (h3, .inl (cI, 3840, .inl (fun _ => 0))), (h4, .inl (cI, 5, .inl (fun _ => 0))), (h5, .inl (cI, 5, .inl (fun _ => 0))), (h6, .inl (cI, 5, .inl (fun _ => 0))), (h7, .inl (cI, 5, .inl (fun _ => 0)))]) (w1 := [(h0, .inr (10, [.ref h8, .ref h1, .ref h9, .ref h10, .ref h11, .ref h4, .ref h6, .int 0, .ref h12, .ref h13, .ref h14, .ref h15, .ref h16, .ref h17, .ref h18, .int 0, .int 0, .int 0, .ref h19, .ref h20, .int 0, .int 0, .int 0, .ref h5, .ref h7, .ref h21, .ref h2, .ref h22, .ref h23, .ref h3, .int 0, .ref h24, .int 0, .ref h25])), (h8, .inl (cI, 7, .inl (upd (fun _ => 0) (Int32.toNatClampNeg 4) 1)))]) hP hD [0, 8] [1, 2, 3, 4, 5, 6, 7] rfl rfl (by decide) (by decide) hk1 hFc hP1 hD1
    generalize H1 = H at hP hS ⊢
    have hP : va_P D vwCl [(h1, .inl (cI, 9, .inl (upd (upd (upd (fun _ => 0) (Int32.toNatClampNeg 3) 5) (Int32.toNatClampNeg 4) 9) (Int32.toNatClampNeg 7) 1))), (h2, .inl (cI, 3840, .inl (fun _ => 0))), (h3, .inl (cI, 3840, .inl (fun _ => 0))), (h4, .inl (cI, 5, .inl (fun _ => 0))), (h5, .inl (cI, 5, .inl (fun _ => 0))), (h6, .inl (cI, 5, .inl (fun _ => 0))), (h7, .inl (cI, 5, .inl (fun _ => 0))), (h0, .inr (10, [.ref h8, .ref h1, .ref h9, .ref h10, .ref h11, .ref h4, .ref h6, .int 0, .ref h12, .ref h13, .ref h14, .ref h15, .ref h16, .ref h17, .ref h18, .int 0, .int 0, .int 0, .ref h19, .ref h20, .int 0, .int 0, .int 0, .ref h5, .ref h7, .ref h21, .ref h2, .ref h22, .ref h23, .ref h3, .int 0, .ref h24, .int 0, .ref h25])), (h8, .inl (cI, 7, .inl (upd (fun _ => 0) (Int32.toNatClampNeg 4) 1)))] H := hP
    have hD : va_D A [(h1, .inl (cI, 9, .inl (upd (upd (upd (fun _ => 0) (Int32.toNatClampNeg 3) 5) (Int32.toNatClampNeg 4) 9) (Int32.toNatClampNeg 7) 1))), (h2, .inl (cI, 3840, .inl (fun _ => 0))), (h3, .inl (cI, 3840, .inl (fun _ => 0))), (h4, .inl (cI, 5, .inl (fun _ => 0))), (h5, .inl (cI, 5, .inl (fun _ => 0))), (h6, .inl (cI, 5, .inl (fun _ => 0))), (h7, .inl (cI, 5, .inl (fun _ => 0))), (h0, .inr (10, [.ref h8, .ref h1, .ref h9, .ref h10, .ref h11, .ref h4, .ref h6, .int 0, .ref h12, .ref h13, .ref h14, .ref h15, .ref h16, .ref h17, .ref h18, .int 0, .int 0, .int 0, .ref h19, .ref h20, .int 0, .int 0, .int 0, .ref h5, .ref h7, .ref h21, .ref h2, .ref h22, .ref h23, .ref h3, .int 0, .ref h24, .int 0, .ref h25])), (h8, .inl (cI, 7, .inl (upd (fun _ => 0) (Int32.toNatClampNeg 4) 1)))] := hD
    have hw : r69 = (-4) := hw
    subst hw
    refine W.widen (k := 0) (n := 0) (Nat.le_of_ble_eq_true rfl) (Nat.le_of_ble_eq_true rfl) ?_
    exact W.iret (v := (-4)) hx hb hr (fun t ht hW => ⟨⟨(-4), (), rfl, (by rw [if_neg c1]), trivial⟩, hS.F ht⟩) hS.2.2 dX10_before_10
