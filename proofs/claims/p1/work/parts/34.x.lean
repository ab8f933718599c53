def sw_k_X9_fewest : List Cond := .code yX9_fewest cX9_fewest 3 (some .int) :: (([.fieldLink RX9 86 "TopTurned" "blindfold" "LTopTurned$Blind;", .methodLink RX9 223 yX0_shortestRow, .instanceMethod yX0_shortestRow, .selects RX0 yX0_shortestRow yX0_shortestRow, .initialized RX0, .methodLink RX9 162 yX9_orNone, .static yX9_orNone, .initialized RX9, .methodLink RX9 94 yX9_refuse, .instanceMethod yX9_refuse, .selects RX9 yX9_refuse yX9_refuse] : List Cond) ++ (wsX90 ++ (sw_k_X0_shortestRow ++ (sw_k_X9_orNone ++ (sw_k_X9_refuse_1 ++ (([] : List Cond)))))))
theorem gd_k_X9_fewest : ∀ w ∈ sw_k_X9_fewest, (w.onTables && w.keeps) = true ∨ ∃ ty, w = .arrayClass ty := List.forall_mem_cons.mpr ⟨good_of_word rfl, List.forall_mem_append.mpr ⟨fun w h => good_of_word (List.all_eq_true.mp (by decide +kernel : (([.fieldLink RX9 86 "TopTurned" "blindfold" "LTopTurned$Blind;", .methodLink RX9 223 yX0_shortestRow, .instanceMethod yX0_shortestRow, .selects RX0 yX0_shortestRow yX0_shortestRow, .initialized RX0, .methodLink RX9 162 yX9_orNone, .static yX9_orNone, .initialized RX9, .methodLink RX9 94 yX9_refuse, .instanceMethod yX9_refuse, .selects RX9 yX9_refuse yX9_refuse] : List Cond)).all goodWord = true) w h), List.forall_mem_append.mpr ⟨gw_X9, List.forall_mem_append.mpr ⟨gd_k_X0_shortestRow, List.forall_mem_append.mpr ⟨gd_k_X9_orNone, List.forall_mem_append.mpr ⟨gd_k_X9_refuse_1, fun _ h => absurd h List.not_mem_nil⟩⟩⟩⟩⟩⟩
theorem iw_k_X9_fewest_X9 : ∀ w ∈ wsX90, w ∈ sw_k_X9_fewest := fun _ h => List.mem_cons_of_mem _ (List.mem_append_right _ (List.mem_append_left _ h))
theorem gc_k_X9_fewest_k_X0_shortestRow : GoodIn sw_k_X9_fewest sw_k_X0_shortestRow := fun w h => ⟨List.mem_cons_of_mem _ (List.mem_append_right _ (List.mem_append_right _ (List.mem_append_left _ h))), gd_k_X0_shortestRow w h⟩
theorem gc_k_X9_fewest_k_X9_orNone : GoodIn sw_k_X9_fewest sw_k_X9_orNone := fun w h => ⟨List.mem_cons_of_mem _ (List.mem_append_right _ (List.mem_append_right _ (List.mem_append_right _ (List.mem_append_left _ h)))), gd_k_X9_orNone w h⟩
theorem gc_k_X9_fewest_k_X9_refuse_1 : GoodIn sw_k_X9_fewest sw_k_X9_refuse_1 := fun w h => ⟨List.mem_cons_of_mem _ (List.mem_append_right _ (List.mem_append_right _ (List.mem_append_right _ (List.mem_append_right _ (List.mem_append_left _ h))))), gd_k_X9_refuse_1 w h⟩
set_option maxHeartbeats 4000000 in
set_option maxRecDepth 100000 in
theorem k_X9_fewest (l : Launch) (D : va_G) (cC cI cZ : ClassId) (h0 h1 h2 h3 h4 h5 h6 h7 h8 h9 h10 h11 h12 h13 h14 h15 h16 h17 h18 h19 h20 h21 h22 h23 h24 h25 h26 h27 h28 : Nat) (sz : Nat) (p1 : Int32) : Met l yX9_fewest sw_k_X9_fewest ({ frames := 12, cells := 0, slots := 0, locals := 600 }) (va_Pc [.ref h0, .int p1] (kPre D cC cI cZ [(h0, .inr (9, [.ref h2, .ref h8, .ref h9, .int 0, .ref h10, .ref h3, .ref h5, .ref h11, .ref h12, .ref h13, .ref h1, .ref h7])), (h1, .inr (0, [.ref h2, .ref h3, .ref h5, .ref h4, .int 0, .ref h14, .int 0])), (h2, .inr (6, [.int 0, .ref h15, .ref h16, .int 0, .int 5, .int 9, .int 0, .int 1, .int 0, .int 0, .ref h17, .ref h18, .int 0, .ref h19, .int 0, .ref h20, .int 0])), (h3, .inr (5, [.int 0, .int 1, .int 1, .int 1, .int 0, .ref h21, .ref h22, .ref h23, .ref h24, .ref h25, .ref h26])), (h4, .inl (cI, 120, .inl (fun _ => 0))), (h5, .inr (3, [.ref h2, .ref h3, .ref h27, .ref h6, .ref h28, .int 0])), (h6, .inl (cZ, 120, .inl (upd (fun _ => 0) (Int32.toNatClampNeg 0) (vp_nar .boolean 1)))), (h7, .inl (cI, 7, .inl (fun _ => 0)))] sz)) (va_Qi (fun (r : Int32) (_ : Unit) => r = (if (-1) ≤ p1 then (if 0 ≤ p1 then (-9) else 0) else (-4))) (fun _ _ => True) (va_A [(h0, .inr (9, [.ref h2, .ref h8, .ref h9, .int 0, .ref h10, .ref h3, .ref h5, .ref h11, .ref h12, .ref h13, .ref h1, .ref h7])), (h1, .inr (0, [.ref h2, .ref h3, .ref h5, .ref h4, .int 0, .ref h14, .int 0])), (h2, .inr (6, [.int 0, .ref h15, .ref h16, .int 0, .int 5, .int 9, .int 0, .int 1, .int 0, .int 0, .ref h17, .ref h18, .int 0, .ref h19, .int 0, .ref h20, .int 0])), (h3, .inr (5, [.int 0, .int 1, .int 1, .int 1, .int 0, .ref h21, .ref h22, .ref h23, .ref h24, .ref h25, .ref h26])), (h4, .inl (cI, 120, .inl (fun _ => 0))), (h5, .inr (3, [.ref h2, .ref h3, .ref h27, .ref h6, .ref h28, .int 0])), (h6, .inl (cZ, 120, .inl (upd (fun _ => 0) (Int32.toNatClampNeg 0) (vp_nar .boolean 1)))), (h7, .inl (cI, 7, .inl (fun _ => 0)))] sz)) 0 0 (va_A [(h0, .inr (9, [.ref h2, .ref h8, .ref h9, .int 0, .ref h10, .ref h3, .ref h5, .ref h11, .ref h12, .ref h13, .ref h1, .ref h7])), (h1, .inr (0, [.ref h2, .ref h3, .ref h5, .ref h4, .int 0, .ref h14, .int 0])), (h2, .inr (6, [.int 0, .ref h15, .ref h16, .int 0, .int 5, .int 9, .int 0, .int 1, .int 0, .int 0, .ref h17, .ref h18, .int 0, .ref h19, .int 0, .ref h20, .int 0])), (h3, .inr (5, [.int 0, .int 1, .int 1, .int 1, .int 0, .ref h21, .ref h22, .ref h23, .ref h24, .ref h25, .ref h26])), (h4, .inl (cI, 120, .inl (fun _ => 0))), (h5, .inr (3, [.ref h2, .ref h3, .ref h27, .ref h6, .ref h28, .int 0])), (h6, .inl (cZ, 120, .inl (upd (fun _ => 0) (Int32.toNatClampNeg 0) (vp_nar .boolean 1)))), (h7, .inl (cI, 7, .inl (fun _ => 0)))] sz) := by
  refine Met.ofW (cc := cX9_fewest) (maxL := 3) (ret := (some .int)) (by decide) rfl ?_
  intro p e s m args below meth c s₁ B hml hv
  obtain ⟨rfl, hsz, hP, hK, hD0⟩ := hv
  have hx := B.exec
  have hb := B.bytes
  have hr := B.returns
  have hts := atoms_spec (ws := sw_k_X9_fewest) B.pre
  have hown : s.vm.findClass RX9 = some m.cls := findClass_of_methodNamed B.named
  have hlocks := B.notSynchronized
  subst hsz
  have hD := hD0.self (sz := s.heap.size)
  generalize hAe : va_A [(h0, .inr (9, [.ref h2, .ref h8, .ref h9, .int 0, .ref h10, .ref h3, .ref h5, .ref h11, .ref h12, .ref h13, .ref h1, .ref h7])), (h1, .inr (0, [.ref h2, .ref h3, .ref h5, .ref h4, .int 0, .ref h14, .int 0])), (h2, .inr (6, [.int 0, .ref h15, .ref h16, .int 0, .int 5, .int 9, .int 0, .int 1, .int 0, .int 0, .ref h17, .ref h18, .int 0, .ref h19, .int 0, .ref h20, .int 0])), (h3, .inr (5, [.int 0, .int 1, .int 1, .int 1, .int 0, .ref h21, .ref h22, .ref h23, .ref h24, .ref h25, .ref h26])), (h4, .inl (cI, 120, .inl (fun _ => 0))), (h5, .inr (3, [.ref h2, .ref h3, .ref h27, .ref h6, .ref h28, .int 0])), (h6, .inl (cZ, 120, .inl (upd (fun _ => 0) (Int32.toNatClampNeg 0) (vp_nar .boolean 1)))), (h7, .inl (cI, 7, .inl (fun _ => 0)))] s.heap.size = A at hD ⊢
  have hA : ∀ q : Nat, s.heap.size ≤ q → A q := fun q h => by rw [← hAe]; exact Or.inr h
  have hS : va_S A s.heap s.heap [] := va_S.rf
  have hl := lv_entry ([.ref h0, .int p1]) (n := 3) (Nat.le_of_ble_eq_true rfl)
  rw [lg_entry_eq]
  generalize (lg_sl ([.ref h0, .int p1]) ++ List.replicate (3 - (lg_sl ([.ref h0, .int p1])).length) Slot.unset).toArray = ls at hl ⊢
  have hl : lv_has ls 3 [(0, .ref h0), (1, .int p1)] := hl
  refine lv_iload_n hx hb dX9_fewest_0 rfl (lv_at hl 1 rfl) ?_
  refine lv_iconst (v := (-1)) hx hb dX9_fewest_1 (by decide) ?_
  refine lv_icmp_ge (tgt := 12) hx hb dX9_fewest_2 (by decide) (fun c1 => ?_) (fun c1 => ?_)
  · refine lv_aload_n hx hb dX9_fewest_12 rfl (lv_at hl 0 rfl) ?_
    refine va_get (D := D) (ci := 9) (v := .ref h1) (C := RX9) (T := TX9) (N := 12) hx hb hts iw_k_X9_fewest_X9 hown hK hP 0 rfl rfl 10 (by decide) (hts (.fieldLink RX9 86 "TopTurned" "blindfold" "LTopTurned$Blind;") (by decide +kernel)) (fun _ h9 => h9) rfl dX9_fewest_13 ?_
    have hPc := hP.sub (ws' := [(h1, .inr (0, [.ref h2, .ref h3, .ref h5, .ref h4, .int 0, .ref h14, .int 0])), (h2, .inr (6, [.int 0, .ref h15, .ref h16, .int 0, .int 5, .int 9, .int 0, .int 1, .int 0, .int 0, .ref h17, .ref h18, .int 0, .ref h19, .int 0, .ref h20, .int 0])), (h3, .inr (5, [.int 0, .int 1, .int 1, .int 1, .int 0, .ref h21, .ref h22, .ref h23, .ref h24, .ref h25, .ref h26])), (h4, .inl (cI, 120, .inl (fun _ => 0))), (h5, .inr (3, [.ref h2, .ref h3, .ref h27, .ref h6, .ref h28, .int 0])), (h6, .inl (cZ, 120, .inl (upd (fun _ => 0) (Int32.toNatClampNeg 0) (vp_nar .boolean 1))))]) [1, 2, 3, 4, 5, 6] rfl
    have hDc := hD.sub (ws' := [(h1, .inr (0, [.ref h2, .ref h3, .ref h5, .ref h4, .int 0, .ref h14, .int 0])), (h2, .inr (6, [.int 0, .ref h15, .ref h16, .int 0, .int 5, .int 9, .int 0, .int 1, .int 0, .int 0, .ref h17, .ref h18, .int 0, .ref h19, .int 0, .ref h20, .int 0])), (h3, .inr (5, [.int 0, .int 1, .int 1, .int 1, .int 0, .ref h21, .ref h22, .ref h23, .ref h24, .ref h25, .ref h26])), (h4, .inl (cI, 120, .inl (fun _ => 0))), (h5, .inr (3, [.ref h2, .ref h3, .ref h27, .ref h6, .ref h28, .int 0])), (h6, .inl (cZ, 120, .inl (upd (fun _ => 0) (Int32.toNatClampNeg 0) (vp_nar .boolean 1))))]) [1, 2, 3, 4, 5, 6] (by decide) rfl
    have hFc := va_free (wc := [(h1, .inr (0, [.ref h2, .ref h3, .ref h5, .ref h4, .int 0, .ref h14, .int 0])), (h2, .inr (6, [.int 0, .ref h15, .ref h16, .int 0, .int 5, .int 9, .int 0, .int 1, .int 0, .int 0, .ref h17, .ref h18, .int 0, .ref h19, .int 0, .ref h20, .int 0])), (h3, .inr (5, [.int 0, .int 1, .int 1, .int 1, .int 0, .ref h21, .ref h22, .ref h23, .ref h24, .ref h25, .ref h26])), (h4, .inl (cI, 120, .inl (fun _ => 0))), (h5, .inr (3, [.ref h2, .ref h3, .ref h27, .ref h6, .ref h28, .int 0])), (h6, .inl (cZ, 120, .inl (upd (fun _ => 0) (Int32.toNatClampNeg 0) (vp_nar .boolean 1))))]) hD hS hA [1, 2, 3, 4, 5, 6] rfl
    refine va_calli (va_runV (As := []) (rest := []) ⟨hx, hb, hml, hown, hts⟩ (k_X0_shortestRow l D cC cI cZ h1 h2 h3 h4 h5 h6 h14 h15 h16 h17 h18 h19 h20 h21 h22 h23 h24 h25 h26 h27 h28 s.heap.size ) (cwV (C := RX0) 0 hts (goodIn_app (goodIn_of _ (by decide +kernel)) gc_k_X9_fewest_k_X0_shortestRow) rfl rfl rfl (by decide +kernel) ⟨(Nat.le_of_ble_eq_true rfl), (Nat.le_of_ble_eq_true rfl)⟩) (kPreV hK hPc hDc (va_recv hK hPc (ci := 0) (q0 := 0) rfl rfl)) rfl rfl hl.1 rfl (lv_room (Nat.le_of_ble_eq_true rfl)) dX9_fewest_16 ⟨(Nat.le_of_ble_eq_true rfl), (Nat.le_of_ble_eq_true rfl)⟩) hS (fun q _ h => hFc q h) hFc (fun r2 u t H1 locs ht hvm hw hB hz1 hk1 hS => ?_)
    obtain ⟨hP1, hD1⟩ := hB
    rw [ht] at hP1
    obtain ⟨hP, hD⟩ := va_join (wr := [(h0, .inr (9, [.ref h2, .ref h8, .ref h9, .int 0, .ref h10, .ref h3, .ref h5, .ref h11, .ref h12, .ref h13, .ref h1, .ref h7])), (h7, .inl (cI, 7, .inl (fun _ => 0)))]) (w1 := [(h2, .inr (6, [.int 0, .ref h15, .ref h16, .int 0, .int 5, .int 9, .int 0, .int 1, .int 0, .int 0, .ref h17, .ref h18, .int 0, .ref h19, .int 0, .ref h20, .int 0])), (h1, .inr (0, [.ref h2, .ref h3, .ref h5, .ref h4, .int 1, .ref h14, .int 0])), (h4, .inl (cI, 120, .inl (fun _ => 0))), (h5, .inr (3, [.ref h2, .ref h3, .ref h27, .ref h6, .ref h28, .int 0])), (h3, .inr (5, [.int 0, .int 1, .int 1, .int 1, .int 0, .ref h21, .ref h22, .ref h23, .ref h24, .ref h25, .ref h26])), (h6, .inl (cZ, 120, .inl (upd (fun _ => 0) (Int32.toNatClampNeg 0) (vp_nar .boolean 1))))]) hP hD [1, 2, 3, 4, 5, 6] [0, 7] rfl rfl (by decide) (by decide) hk1 hFc hP1 hD1
    generalize H1 = H at hP hS ⊢
    have hP : va_P D vwCl [(h0, .inr (9, [.ref h2, .ref h8, .ref h9, .int 0, .ref h10, .ref h3, .ref h5, .ref h11, .ref h12, .ref h13, .ref h1, .ref h7])), (h7, .inl (cI, 7, .inl (fun _ => 0))), (h2, .inr (6, [.int 0, .ref h15, .ref h16, .int 0, .int 5, .int 9, .int 0, .int 1, .int 0, .int 0, .ref h17, .ref h18, .int 0, .ref h19, .int 0, .ref h20, .int 0])), (h1, .inr (0, [.ref h2, .ref h3, .ref h5, .ref h4, .int 1, .ref h14, .int 0])), (h4, .inl (cI, 120, .inl (fun _ => 0))), (h5, .inr (3, [.ref h2, .ref h3, .ref h27, .ref h6, .ref h28, .int 0])), (h3, .inr (5, [.int 0, .int 1, .int 1, .int 1, .int 0, .ref h21, .ref h22, .ref h23, .ref h24, .ref h25, .ref h26])), (h6, .inl (cZ, 120, .inl (upd (fun _ => 0) (Int32.toNatClampNeg 0) (vp_nar .boolean 1))))] H := hP
    have hD : va_D A [(h0, .inr (9, [.ref h2, .ref h8, .ref h9, .int 0, .ref h10, .ref h3, .ref h5, .ref h11, .ref h12, .ref h13, .ref h1, .ref h7])), (h7, .inl (cI, 7, .inl (fun _ => 0))), (h2, .inr (6, [.int 0, .ref h15, .ref h16, .int 0, .int 5, .int 9, .int 0, .int 1, .int 0, .int 0, .ref h17, .ref h18, .int 0, .ref h19, .int 0, .ref h20, .int 0])), (h1, .inr (0, [.ref h2, .ref h3, .ref h5, .ref h4, .int 1, .ref h14, .int 0])), (h4, .inl (cI, 120, .inl (fun _ => 0))), (h5, .inr (3, [.ref h2, .ref h3, .ref h27, .ref h6, .ref h28, .int 0])), (h3, .inr (5, [.int 0, .int 1, .int 1, .int 1, .int 0, .ref h21, .ref h22, .ref h23, .ref h24, .ref h25, .ref h26])), (h6, .inl (cZ, 120, .inl (upd (fun _ => 0) (Int32.toNatClampNeg 0) (vp_nar .boolean 1))))] := hD
    have hw : r2 = 0 := hw
    subst hw
    refine lv_istore_n (lv' := [(2, .int 0), (0, .ref h0), (1, .int p1)]) hx hb dX9_fewest_19 rfl hl (by decide) rfl (fun ls hl => ?_)
    refine lv_iload_n hx hb dX9_fewest_20 rfl (lv_at hl 2 rfl) ?_
    refine lv_if_ge (tgt := 29) hx hb dX9_fewest_21 (by decide) (fun c3 => ?_) (fun c3 => ?_)
    · refine lv_iload_n hx hb dX9_fewest_29 rfl (lv_at hl 2 rfl) ?_
      refine lv_iload_n hx hb dX9_fewest_30 rfl (lv_at hl 0 rfl) ?_
      refine lv_icmp_ge (tgt := 52) hx hb dX9_fewest_31 (by decide) (fun _ => ?_) (fun c => absurd c3 c)
      refine lv_bipush (v := (-9)) hx hb dX9_fewest_52 (by decide) ?_
      refine W.widen (k := 0) (n := 0) (Nat.le_of_ble_eq_true rfl) (Nat.le_of_ble_eq_true rfl) ?_
      exact W.iret (v := (-9)) hx hb hr (fun t ht hW => ⟨⟨(-9), (), rfl, (by rw [if_pos c1, if_pos c3]), trivial⟩, hS.F ht⟩) hS.2.2 dX9_fewest_54
    · refine lv_iload_n hx hb dX9_fewest_24 rfl (lv_at hl 0 rfl) ?_
      have hPc := hP.sub (ws' := []) [] rfl
      have hDc := hD.sub (ws' := []) [] (by decide) rfl
      refine va_calli (va_runS (As := [.int 0]) (rest := []) ⟨hx, hb, hml, hown, hts⟩ (k_X9_orNone l D cC cI cZ  H.size ) (va_cwS 1 hts (goodIn_app (goodIn_of _ (by decide +kernel)) gc_k_X9_fewest_k_X9_orNone) rfl rfl rfl (by decide +kernel) ⟨(Nat.le_of_ble_eq_true rfl), (Nat.le_of_ble_eq_true rfl)⟩) (kPreS hK hPc hDc) rfl rfl hl.1 rfl (lv_room (Nat.le_of_ble_eq_true rfl)) dX9_fewest_25 ⟨(Nat.le_of_ble_eq_true rfl), (Nat.le_of_ble_eq_true rfl)⟩) hS (fun q _ h => False.elim h) (fun q h => False.elim h) (fun r4 u t H1 locs ht hvm hw hB hz1 hk1 hS => ?_)
      have hP := hP.kept (H1 := H1) (fun k q hk => hk1 q.1 (hP k q hk).lt (fun h => h))
      generalize H1 = H at hP hS ⊢
      have hw : r4 = 0 := hw
      subst hw
      refine W.widen (k := 0) (n := 0) (Nat.le_of_ble_eq_true rfl) (Nat.le_of_ble_eq_true rfl) ?_
      exact W.iret (v := 0) hx hb hr (fun t ht hW => ⟨⟨0, (), rfl, (by rw [if_pos c1, if_neg c3]), trivial⟩, hS.F ht⟩) hS.2.2 dX9_fewest_28
  · refine lv_aload_n hx hb dX9_fewest_5 rfl (lv_at hl 0 rfl) ?_
    refine lv_bipush (v := (-4)) hx hb dX9_fewest_6 (by decide) ?_
    have hPc := hP.sub (ws' := [(h0, .inr (9, [.ref h2, .ref h8, .ref h9, .int 0, .ref h10, .ref h3, .ref h5, .ref h11, .ref h12, .ref h13, .ref h1, .ref h7])), (h7, .inl (cI, 7, .inl (fun _ => 0)))]) [0, 7] rfl
    have hDc := hD.sub (ws' := [(h0, .inr (9, [.ref h2, .ref h8, .ref h9, .int 0, .ref h10, .ref h3, .ref h5, .ref h11, .ref h12, .ref h13, .ref h1, .ref h7])), (h7, .inl (cI, 7, .inl (fun _ => 0)))]) [0, 7] (by decide) rfl
    have hFc := va_free (wc := [(h0, .inr (9, [.ref h2, .ref h8, .ref h9, .int 0, .ref h10, .ref h3, .ref h5, .ref h11, .ref h12, .ref h13, .ref h1, .ref h7])), (h7, .inl (cI, 7, .inl (fun _ => 0)))]) hD hS hA [0, 7] rfl
    refine va_calli (va_runV (As := [.int (-4)]) (rest := []) ⟨hx, hb, hml, hown, hts⟩ (k_X9_refuse_1 l D cC cI cZ h0 h7 h2 h8 h9 h10 h3 h5 h11 h12 h13 h1 s.heap.size ) (cwV (C := RX9) 1 hts (goodIn_app (goodIn_of _ (by decide +kernel)) gc_k_X9_fewest_k_X9_refuse_1) rfl rfl rfl (by decide +kernel) ⟨(Nat.le_of_ble_eq_true rfl), (Nat.le_of_ble_eq_true rfl)⟩) (kPreV hK hPc hDc (va_recv hK hPc (ci := 9) (q0 := 0) rfl rfl)) rfl rfl hl.1 rfl (lv_room (Nat.le_of_ble_eq_true rfl)) dX9_fewest_8 ⟨(Nat.le_of_ble_eq_true rfl), (Nat.le_of_ble_eq_true rfl)⟩) hS (fun q _ h => hFc q h) hFc (fun r5 u t H1 locs ht hvm hw hB hz1 hk1 hS => ?_)
    obtain ⟨hP1, hD1⟩ := hB
    rw [ht] at hP1
    obtain ⟨hP, hD⟩ := va_join (wr := [(h1, .inr (0, [.ref h2, .ref h3, .ref h5, .ref h4, .int 0, .ref h14, .int 0])), (h2, .inr (6, [.int 0, .ref h15, .ref h16, .int 0, .int 5, .int 9, .int 0, .int 1, .int 0, .int 0, .ref h17, .ref h18, .int 0, .ref h19, .int 0, .ref h20, .int 0])), (h3, .inr (5, [.int 0, .int 1, .int 1, .int 1, .int 0, .ref h21, .ref h22, .ref h23, .ref h24, .ref h25, .ref h26])), (h4, .inl (cI, 120, .inl (fun _ => 0))), (h5, .inr (3, [.ref h2, .ref h3, .ref h27, .ref h6, .ref h28, .int 0])), (h6, .inl (cZ, 120, .inl (upd (fun _ => 0) (Int32.toNatClampNeg 0) (vp_nar .boolean 1))))]) (w1 := [(h0, .inr (9, [.ref h2, .ref h8, .ref h9, .int 0, .ref h10, .ref h3, .ref h5, .ref h11, .ref h12, .ref h13, .ref h1, .ref h7])), (h7, .inl (cI, 7, .inl (upd (fun _ => 0) (Int32.toNatClampNeg 4) 1)))]) hP hD [0, 7] [1, 2, 3, 4, 5, 6] rfl rfl (by decide) (by decide) hk1 hFc hP1 hD1
    generalize H1 = H at hP hS ⊢
    have hP : va_P D vwCl [(h1, .inr (0, [.ref h2, .ref h3, .ref h5, .ref h4, .int 0, .ref h14, .int 0])), (h2, .inr (6, [.int 0, .ref h15, .ref h16, .int 0, .int 5, .int 9, .int 0, .int 1, .int 0, .int 0, .ref h17, .ref h18, .int 0, .ref h19, .int 0, .ref h20, .int 0])), (h3, .inr (5, [.int 0, .int 1, .int 1, .int 1, .int 0, .ref h21, .ref h22, .ref h23, .ref h24, .ref h25, .ref h26])), (h4, .inl (cI, 120, .inl (fun _ => 0))), (h5, .inr (3, [.ref h2, .ref h3, .ref h27, .ref h6, .ref h28, .int 0])), (h6, .inl (cZ, 120, .inl (upd (fun _ => 0) (Int32.toNatClampNeg 0) (vp_nar .boolean 1)))), (h0, .inr (9, [.ref h2, .ref h8, .ref h9, .int 0, .ref h10, .ref h3, .ref h5, .ref h11, .ref h12, .ref h13, .ref h1, .ref h7])), (h7, .inl (cI, 7, .inl (upd (fun _ => 0) (Int32.toNatClampNeg 4) 1)))] H := hP
    have hD : va_D A [(h1, .inr (0, [.ref h2, .ref h3, .ref h5, .ref h4, .int 0, .ref h14, .int 0])), (h2, .inr (6, [.int 0, .ref h15, .ref h16, .int 0, .int 5, .int 9, .int 0, .int 1, .int 0, .int 0, .ref h17, .ref h18, .int 0, .ref h19, .int 0, .ref h20, .int 0])), (h3, .inr (5, [.int 0, .int 1, .int 1, .int 1, .int 0, .ref h21, .ref h22, .ref h23, .ref h24, .ref h25, .ref h26])), (h4, .inl (cI, 120, .inl (fun _ => 0))), (h5, .inr (3, [.ref h2, .ref h3, .ref h27, .ref h6, .ref h28, .int 0])), (h6, .inl (cZ, 120, .inl (upd (fun _ => 0) (Int32.toNatClampNeg 0) (vp_nar .boolean 1)))), (h0, .inr (9, [.ref h2, .ref h8, .ref h9, .int 0, .ref h10, .ref h3, .ref h5, .ref h11, .ref h12, .ref h13, .ref h1, .ref h7])), (h7, .inl (cI, 7, .inl (upd (fun _ => 0) (Int32.toNatClampNeg 4) 1)))] := hD
    have hw : r5 = (-4) := hw
    subst hw
    refine W.widen (k := 0) (n := 0) (Nat.le_of_ble_eq_true rfl) (Nat.le_of_ble_eq_true rfl) ?_
    exact W.iret (v := (-4)) hx hb hr (fun t ht hW => ⟨⟨(-4), (), rfl, (by rw [if_neg c1]), trivial⟩, hS.F ht⟩) hS.2.2 dX9_fewest_11
def sw_k_X3_howManyLawful : List Cond := .code yX3_howManyLawful cX3_howManyLawful 4 (some .int) :: (([.fieldLink RX3 26 "TopTurned$Rules" "space" "LTopTurned$Space;", .fieldLink RX3 43 "TopTurned$Space" "turns" "I"] : List Cond) ++ (wsX30 ++ (wsX50 ++ (([] : List Cond)))))
theorem gd_k_X3_howManyLawful : ∀ w ∈ sw_k_X3_howManyLawful, (w.onTables && w.keeps) = true ∨ ∃ ty, w = .arrayClass ty := List.forall_mem_cons.mpr ⟨good_of_word rfl, List.forall_mem_append.mpr ⟨fun w h => good_of_word (List.all_eq_true.mp (by decide +kernel : (([.fieldLink RX3 26 "TopTurned$Rules" "space" "LTopTurned$Space;", .fieldLink RX3 43 "TopTurned$Space" "turns" "I"] : List Cond)).all goodWord = true) w h), List.forall_mem_append.mpr ⟨gw_X3, List.forall_mem_append.mpr ⟨gw_X5, fun _ h => absurd h List.not_mem_nil⟩⟩⟩⟩
theorem iw_k_X3_howManyLawful_X3 : ∀ w ∈ wsX30, w ∈ sw_k_X3_howManyLawful := fun _ h => List.mem_cons_of_mem _ (List.mem_append_right _ (List.mem_append_left _ h))
theorem iw_k_X3_howManyLawful_X5 : ∀ w ∈ wsX50, w ∈ sw_k_X3_howManyLawful := fun _ h => List.mem_cons_of_mem _ (List.mem_append_right _ (List.mem_append_right _ (List.mem_append_left _ h)))
set_option maxHeartbeats 4000000 in
set_option maxRecDepth 100000 in
theorem k_X3_howManyLawful (l : Launch) (D : va_G) (cC cI cZ : ClassId) (h0 h1 h2 h3 h4 h5 h6 h7 h8 h9 h10 h11 : Nat) (sz : Nat) : Met l yX3_howManyLawful sw_k_X3_howManyLawful ({ frames := 2, cells := 0, slots := 0, locals := 100 }) (va_Pc [.ref h0, .int 0] (kPre D cC cI cZ [(h0, .inr (3, [.ref h2, .ref h1, .ref h3, .ref h4, .ref h5, .int 0])), (h1, .inr (5, [.int 0, .int 1, .int 1, .int 1, .int 0, .ref h6, .ref h7, .ref h8, .ref h9, .ref h10, .ref h11]))] sz)) (va_Qi (fun (r : Int32) (_ : Unit) => r = 0) (fun _ _ => True) (fun _ => False)) 0 0 (fun _ => False) := by
  refine Met.ofW (cc := cX3_howManyLawful) (maxL := 4) (ret := (some .int)) (by decide) rfl ?_
  intro p e s m args below meth c s₁ B hml hv
  obtain ⟨rfl, hsz, hP, hK, hD0⟩ := hv
  have hx := B.exec
  have hb := B.bytes
  have hr := B.returns
  have hts := atoms_spec (ws := sw_k_X3_howManyLawful) B.pre
  have hown : s.vm.findClass RX3 = some m.cls := findClass_of_methodNamed B.named
  have hlocks := B.notSynchronized
  subst hsz
  have hD := hD0
  have hS : va_S (fun _ => False) s.heap s.heap [] := va_S.rf
  have hl := lv_entry ([.ref h0, .int 0]) (n := 4) (Nat.le_of_ble_eq_true rfl)
  rw [lg_entry_eq]
  generalize (lg_sl ([.ref h0, .int 0]) ++ List.replicate (4 - (lg_sl ([.ref h0, .int 0])).length) Slot.unset).toArray = ls at hl ⊢
  have hl : lv_has ls 4 [(0, .ref h0), (1, .int 0)] := hl
  refine lv_iconst (v := 0) hx hb dX3_howManyLawful_0 (by decide) ?_
  refine lv_istore_n (lv' := [(2, .int 0), (0, .ref h0), (1, .int 0)]) hx hb dX3_howManyLawful_1 rfl hl (by decide) rfl (fun ls hl => ?_)
  refine lv_iconst (v := 0) hx hb dX3_howManyLawful_2 (by decide) ?_
  refine lv_istore_n (lv' := [(3, .int 0), (2, .int 0), (0, .ref h0), (1, .int 0)]) hx hb dX3_howManyLawful_3 rfl hl (by decide) rfl (fun ls hl => ?_)
  refine lv_iload_n hx hb dX3_howManyLawful_4 rfl (lv_at hl 0 rfl) ?_
  refine lv_aload_n hx hb dX3_howManyLawful_5 rfl (lv_at hl 2 rfl) ?_
  refine va_get (D := D) (ci := 3) (v := .ref h1) (C := RX3) (T := TX3) (N := 6) hx hb hts iw_k_X3_howManyLawful_X3 hown hK hP 0 rfl rfl 1 (by decide) (hts (.fieldLink RX3 26 "TopTurned$Rules" "space" "LTopTurned$Space;") (by decide +kernel)) (fun _ h9 => h9) rfl dX3_howManyLawful_6 ?_
  refine va_get (D := D) (ci := 5) (v := .int 0) (C := RX5) (T := TX5) (N := 11) hx hb hts iw_k_X3_howManyLawful_X5 hown hK hP 1 rfl rfl 4 (by decide) (hts (.fieldLink RX3 43 "TopTurned$Space" "turns" "I") (by decide +kernel)) (fun _ h9 => h9) rfl dX3_howManyLawful_9 ?_
  refine lv_icmp_ge (tgt := 33) hx hb dX3_howManyLawful_12 (by decide) (fun _ => ?_) (fun c => absurd (by decide) c)
  refine lv_iload_n hx hb dX3_howManyLawful_33 rfl (lv_at hl 1 rfl) ?_
  exact W.iret (v := 0) hx hb hr (fun t ht hW => ⟨⟨0, (), rfl, rfl, trivial⟩, hS.F ht⟩) hS.2.2 dX3_howManyLawful_34
def sw_k_X8_seedMatch : List Cond := .code yX8_seedMatch cX8_seedMatch 3 (some .int) :: (([.fieldLink RX8 9 "TopTurned$Walks" "space" "LTopTurned$Space;", .fieldLink RX8 48 "TopTurned$Space" "states" "I", .fieldLink RX8 37 "TopTurned$Walks" "second" "[I", .fieldLink RX8 15 "TopTurned$Walks" "rules" "LTopTurned$Rules;", .methodLink RX8 58 yX5_orderIn, .instanceMethod yX5_orderIn, .selects RX5 yX5_orderIn yX5_orderIn, .initialized RX5, .methodLink RX8 75 yX3_howManyLawful, .instanceMethod yX3_howManyLawful, .selects RX3 yX3_howManyLawful yX3_howManyLawful, .initialized RX3, .fieldLink RX8 33 "TopTurned$Walks" "first" "[I", .fieldLink RX8 29 "TopTurned$Walks" "queue" "[I"] : List Cond) ++ (wsX80 ++ (wsX50 ++ (sw_k_X5_orderIn ++ (sw_k_X3_howManyLawful ++ (([] : List Cond)))))))
theorem gd_k_X8_seedMatch : ∀ w ∈ sw_k_X8_seedMatch, (w.onTables && w.keeps) = true ∨ ∃ ty, w = .arrayClass ty := List.forall_mem_cons.mpr ⟨good_of_word rfl, List.forall_mem_append.mpr ⟨fun w h => good_of_word (List.all_eq_true.mp (by decide +kernel : (([.fieldLink RX8 9 "TopTurned$Walks" "space" "LTopTurned$Space;", .fieldLink RX8 48 "TopTurned$Space" "states" "I", .fieldLink RX8 37 "TopTurned$Walks" "second" "[I", .fieldLink RX8 15 "TopTurned$Walks" "rules" "LTopTurned$Rules;", .methodLink RX8 58 yX5_orderIn, .instanceMethod yX5_orderIn, .selects RX5 yX5_orderIn yX5_orderIn, .initialized RX5, .methodLink RX8 75 yX3_howManyLawful, .instanceMethod yX3_howManyLawful, .selects RX3 yX3_howManyLawful yX3_howManyLawful, .initialized RX3, .fieldLink RX8 33 "TopTurned$Walks" "first" "[I", .fieldLink RX8 29 "TopTurned$Walks" "queue" "[I"] : List Cond)).all goodWord = true) w h), List.forall_mem_append.mpr ⟨gw_X8, List.forall_mem_append.mpr ⟨gw_X5, List.forall_mem_append.mpr ⟨gd_k_X5_orderIn, List.forall_mem_append.mpr ⟨gd_k_X3_howManyLawful, fun _ h => absurd h List.not_mem_nil⟩⟩⟩⟩⟩⟩
theorem iw_k_X8_seedMatch_X8 : ∀ w ∈ wsX80, w ∈ sw_k_X8_seedMatch := fun _ h => List.mem_cons_of_mem _ (List.mem_append_right _ (List.mem_append_left _ h))
theorem iw_k_X8_seedMatch_X5 : ∀ w ∈ wsX50, w ∈ sw_k_X8_seedMatch := fun _ h => List.mem_cons_of_mem _ (List.mem_append_right _ (List.mem_append_right _ (List.mem_append_left _ h)))
theorem gc_k_X8_seedMatch_k_X5_orderIn : GoodIn sw_k_X8_seedMatch sw_k_X5_orderIn := fun w h => ⟨List.mem_cons_of_mem _ (List.mem_append_right _ (List.mem_append_right _ (List.mem_append_right _ (List.mem_append_left _ h)))), gd_k_X5_orderIn w h⟩
theorem gc_k_X8_seedMatch_k_X3_howManyLawful : GoodIn sw_k_X8_seedMatch sw_k_X3_howManyLawful := fun w h => ⟨List.mem_cons_of_mem _ (List.mem_append_right _ (List.mem_append_right _ (List.mem_append_right _ (List.mem_append_right _ (List.mem_append_left _ h))))), gd_k_X3_howManyLawful w h⟩
set_option maxHeartbeats 4000000 in
set_option maxRecDepth 100000 in
theorem k_X8_seedMatch (l : Launch) (D : va_G) (cC cI cZ : ClassId) (h0 h1 h2 h3 h4 h5 h6 h7 h8 h9 h10 h11 h12 h13 h14 h15 h16 : Nat) (sz : Nat) : Met l yX8_seedMatch sw_k_X8_seedMatch ({ frames := 4, cells := 0, slots := 0, locals := 200 }) (va_Pc [.ref h0] (kPre D cC cI cZ [(h0, .inr (8, [.ref h1, .ref h2, .ref h6, .ref h5, .ref h4, .ref h3])), (h1, .inr (5, [.int 0, .int 1, .int 1, .int 1, .int 0, .ref h7, .ref h8, .ref h9, .ref h10, .ref h11, .ref h12])), (h2, .inr (3, [.ref h13, .ref h1, .ref h14, .ref h15, .ref h16, .int 0])), (h3, .inl (cI, 3840, .inl (fun _ => 0))), (h4, .inl (cI, 3840, .inl (fun _ => 0))), (h5, .inl (cI, 3840, .inl (fun _ => 0)))] sz)) (va_Qi (fun (r : Int32) (_ : Unit) => r = 1) (fun _ t => va_P D vwCl [(h0, .inr (8, [.ref h1, .ref h2, .ref h6, .ref h5, .ref h4, .ref h3])), (h1, .inr (5, [.int 0, .int 1, .int 1, .int 1, .int 0, .ref h7, .ref h8, .ref h9, .ref h10, .ref h11, .ref h12])), (h2, .inr (3, [.ref h13, .ref h1, .ref h14, .ref h15, .ref h16, .int 0])), (h3, .inl (cI, 3840, .inl (fun _ => 0))), (h4, .inl (cI, 3840, .inl (upd (upd (fun _ => 0) (Int32.toNatClampNeg 0) 2) (Int32.toNatClampNeg 0) 0))), (h5, .inl (cI, 3840, .inl (fun _ => 0)))] t.heap ∧ va_D (va_A [(h0, .inr (8, [.ref h1, .ref h2, .ref h6, .ref h5, .ref h4, .ref h3])), (h1, .inr (5, [.int 0, .int 1, .int 1, .int 1, .int 0, .ref h7, .ref h8, .ref h9, .ref h10, .ref h11, .ref h12])), (h2, .inr (3, [.ref h13, .ref h1, .ref h14, .ref h15, .ref h16, .int 0])), (h3, .inl (cI, 3840, .inl (fun _ => 0))), (h4, .inl (cI, 3840, .inl (fun _ => 0))), (h5, .inl (cI, 3840, .inl (fun _ => 0)))] sz) [(h0, .inr (8, [.ref h1, .ref h2, .ref h6, .ref h5, .ref h4, .ref h3])), (h1, .inr (5, [.int 0, .int 1, .int 1, .int 1, .int 0, .ref h7, .ref h8, .ref h9, .ref h10, .ref h11, .ref h12])), (h2, .inr (3, [.ref h13, .ref h1, .ref h14, .ref h15, .ref h16, .int 0])), (h3, .inl (cI, 3840, .inl (fun _ => 0))), (h4, .inl (cI, 3840, .inl (upd (upd (fun _ => 0) (Int32.toNatClampNeg 0) 2) (Int32.toNatClampNeg 0) 0))), (h5, .inl (cI, 3840, .inl (fun _ => 0)))]) (va_A [(h0, .inr (8, [.ref h1, .ref h2, .ref h6, .ref h5, .ref h4, .ref h3])), (h1, .inr (5, [.int 0, .int 1, .int 1, .int 1, .int 0, .ref h7, .ref h8, .ref h9, .ref h10, .ref h11, .ref h12])), (h2, .inr (3, [.ref h13, .ref h1, .ref h14, .ref h15, .ref h16, .int 0])), (h3, .inl (cI, 3840, .inl (fun _ => 0))), (h4, .inl (cI, 3840, .inl (fun _ => 0))), (h5, .inl (cI, 3840, .inl (fun _ => 0)))] sz)) 0 0 (va_A [(h0, .inr (8, [.ref h1, .ref h2, .ref h6, .ref h5, .ref h4, .ref h3])), (h1, .inr (5, [.int 0, .int 1, .int 1, .int 1, .int 0, .ref h7, .ref h8, .ref h9, .ref h10, .ref h11, .ref h12])), (h2, .inr (3, [.ref h13, .ref h1, .ref h14, .ref h15, .ref h16, .int 0])), (h3, .inl (cI, 3840, .inl (fun _ => 0))), (h4, .inl (cI, 3840, .inl (fun _ => 0))), (h5, .inl (cI, 3840, .inl (fun _ => 0)))] sz) := by
  refine Met.ofW (cc := cX8_seedMatch) (maxL := 3) (ret := (some .int)) (by decide) rfl ?_
  intro p e s m args below meth c s₁ B hml hv
  obtain ⟨rfl, hsz, hP, hK, hD0⟩ := hv
  have hx := B.exec
  have hb := B.bytes
  have hr := B.returns
  have hts := atoms_spec (ws := sw_k_X8_seedMatch) B.pre
  have hown : s.vm.findClass RX8 = some m.cls := findClass_of_methodNamed B.named
  have hlocks := B.notSynchronized
  subst hsz
  have hD := hD0.self (sz := s.heap.size)
  generalize hAe : va_A [(h0, .inr (8, [.ref h1, .ref h2, .ref h6, .ref h5, .ref h4, .ref h3])), (h1, .inr (5, [.int 0, .int 1, .int 1, .int 1, .int 0, .ref h7, .ref h8, .ref h9, .ref h10, .ref h11, .ref h12])), (h2, .inr (3, [.ref h13, .ref h1, .ref h14, .ref h15, .ref h16, .int 0])), (h3, .inl (cI, 3840, .inl (fun _ => 0))), (h4, .inl (cI, 3840, .inl (fun _ => 0))), (h5, .inl (cI, 3840, .inl (fun _ => 0)))] s.heap.size = A at hD ⊢
  have hA : ∀ q : Nat, s.heap.size ≤ q → A q := fun q h => by rw [← hAe]; exact Or.inr h
  have hS : va_S A s.heap s.heap [] := va_S.rf
  have hl := lv_entry ([.ref h0]) (n := 3) (Nat.le_of_ble_eq_true rfl)
  rw [lg_entry_eq]
  generalize (lg_sl ([.ref h0]) ++ List.replicate (3 - (lg_sl ([.ref h0])).length) Slot.unset).toArray = ls at hl ⊢
  have hl : lv_has ls 3 [(0, .ref h0)] := hl
  refine lv_iconst (v := 0) hx hb dX8_seedMatch_0 (by decide) ?_
  refine lv_istore_n (lv' := [(1, .int 0), (0, .ref h0)]) hx hb dX8_seedMatch_1 rfl hl (by decide) rfl (fun ls hl => ?_)
  refine lv_iconst (v := 0) hx hb dX8_seedMatch_2 (by decide) ?_
  refine lv_istore_n (lv' := [(2, .int 0), (1, .int 0), (0, .ref h0)]) hx hb dX8_seedMatch_3 rfl hl (by decide) rfl (fun ls hl => ?_)
  refine lv_iload_n hx hb dX8_seedMatch_4 rfl (lv_at hl 0 rfl) ?_
  refine lv_aload_n hx hb dX8_seedMatch_5 rfl (lv_at hl 2 rfl) ?_
  refine va_get (D := D) (ci := 8) (v := .ref h1) (C := RX8) (T := TX8) (N := 6) hx hb hts iw_k_X8_seedMatch_X8 hown hK hP 0 rfl rfl 0 (by decide) (hts (.fieldLink RX8 9 "TopTurned$Walks" "space" "LTopTurned$Space;") (by decide +kernel)) (fun _ h9 => h9) rfl dX8_seedMatch_6 ?_
  refine va_get (D := D) (ci := 5) (v := .int 1) (C := RX5) (T := TX5) (N := 11) hx hb hts iw_k_X8_seedMatch_X5 hown hK hP 1 rfl rfl 3 (by decide) (hts (.fieldLink RX8 48 "TopTurned$Space" "states" "I") (by decide +kernel)) (fun _ h9 => h9) rfl dX8_seedMatch_9 ?_
  refine lv_icmp_ge (tgt := 86) hx hb dX8_seedMatch_12 (by decide) (fun c => absurd c (by decide)) (fun _ => ?_)
  refine lv_aload_n hx hb dX8_seedMatch_15 rfl (lv_at hl 2 rfl) ?_
  refine va_get (D := D) (ci := 8) (v := .ref h3) (C := RX8) (T := TX8) (N := 6) hx hb hts iw_k_X8_seedMatch_X8 hown hK hP 0 rfl rfl 5 (by decide) (hts (.fieldLink RX8 37 "TopTurned$Walks" "second" "[I") (by decide +kernel)) (fun _ h9 => h9) rfl dX8_seedMatch_16 ?_
  refine lv_iload_n hx hb dX8_seedMatch_19 rfl (lv_at hl 0 rfl) ?_
  refine lv_aload_n hx hb dX8_seedMatch_20 rfl (lv_at hl 2 rfl) ?_
  refine va_get (D := D) (ci := 8) (v := .ref h2) (C := RX8) (T := TX8) (N := 6) hx hb hts iw_k_X8_seedMatch_X8 hown hK hP 0 rfl rfl 1 (by decide) (hts (.fieldLink RX8 15 "TopTurned$Walks" "rules" "LTopTurned$Rules;") (by decide +kernel)) (fun _ h9 => h9) rfl dX8_seedMatch_21 ?_
  refine lv_aload_n hx hb dX8_seedMatch_24 rfl (lv_at hl 2 rfl) ?_
  refine va_get (D := D) (ci := 8) (v := .ref h1) (C := RX8) (T := TX8) (N := 6) hx hb hts iw_k_X8_seedMatch_X8 hown hK hP 0 rfl rfl 0 (by decide) (hts (.fieldLink RX8 9 "TopTurned$Walks" "space" "LTopTurned$Space;") (by decide +kernel)) (fun _ h9 => h9) rfl dX8_seedMatch_25 ?_
  refine lv_iload_n hx hb dX8_seedMatch_28 rfl (lv_at hl 0 rfl) ?_
  have hPc := hP.sub (ws' := [(h1, .inr (5, [.int 0, .int 1, .int 1, .int 1, .int 0, .ref h7, .ref h8, .ref h9, .ref h10, .ref h11, .ref h12]))]) [1] rfl
  have hDc := hD.sub (ws' := [(h1, .inr (5, [.int 0, .int 1, .int 1, .int 1, .int 0, .ref h7, .ref h8, .ref h9, .ref h10, .ref h11, .ref h12]))]) [1] (by decide) rfl
  refine va_calli (va_runV (As := [.int 0]) (rest := [.ref h2, .int 0, .ref h3]) ⟨hx, hb, hml, hown, hts⟩ (k_X5_orderIn l D cC cI cZ h1 h7 h8 h9 h10 h11 h12 s.heap.size ) (cwV (C := RX5) 1 hts (goodIn_app (goodIn_of _ (by decide +kernel)) gc_k_X8_seedMatch_k_X5_orderIn) rfl rfl rfl (by decide +kernel) ⟨(Nat.le_of_ble_eq_true rfl), (Nat.le_of_ble_eq_true rfl)⟩) (kPreV hK hPc hDc (va_recv hK hPc (ci := 5) (q0 := 0) rfl rfl)) rfl rfl hl.1 rfl (lv_room (Nat.le_of_ble_eq_true rfl)) dX8_seedMatch_29 ⟨(Nat.le_of_ble_eq_true rfl), (Nat.le_of_ble_eq_true rfl)⟩) hS (fun q _ h => False.elim h) (fun q h => False.elim h) (fun r1 u t H1 locs ht hvm hw hB hz1 hk1 hS => ?_)
  have hP := hP.kept (H1 := H1) (fun k q hk => hk1 q.1 (hP k q hk).lt (fun h => h))
  generalize H1 = H at hP hS ⊢
  have hw : r1 = 0 := hw
  subst hw
  have hPc := hP.sub (ws' := [(h2, .inr (3, [.ref h13, .ref h1, .ref h14, .ref h15, .ref h16, .int 0])), (h1, .inr (5, [.int 0, .int 1, .int 1, .int 1, .int 0, .ref h7, .ref h8, .ref h9, .ref h10, .ref h11, .ref h12]))]) [2, 1] rfl
  have hDc := hD.sub (ws' := [(h2, .inr (3, [.ref h13, .ref h1, .ref h14, .ref h15, .ref h16, .int 0])), (h1, .inr (5, [.int 0, .int 1, .int 1, .int 1, .int 0, .ref h7, .ref h8, .ref h9, .ref h10, .ref h11, .ref h12]))]) [2, 1] (by decide) rfl
  refine va_calli (va_runV (As := [.int 0]) (rest := [.int 0, .ref h3]) ⟨hx, hb, hml, hown, hts⟩ (k_X3_howManyLawful l D cC cI cZ h2 h1 h13 h14 h15 h16 h7 h8 h9 h10 h11 h12 H.size ) (cwV (C := RX3) 1 hts (goodIn_app (goodIn_of _ (by decide +kernel)) gc_k_X8_seedMatch_k_X3_howManyLawful) rfl rfl rfl (by decide +kernel) ⟨(Nat.le_of_ble_eq_true rfl), (Nat.le_of_ble_eq_true rfl)⟩) (kPreV hK hPc hDc (va_recv hK hPc (ci := 3) (q0 := 0) rfl rfl)) rfl rfl hl.1 rfl (lv_room (Nat.le_of_ble_eq_true rfl)) dX8_seedMatch_32 ⟨(Nat.le_of_ble_eq_true rfl), (Nat.le_of_ble_eq_true rfl)⟩) hS (fun q _ h => False.elim h) (fun q h => False.elim h) (fun r2 u t H1 locs ht hvm hw hB hz1 hk1 hS => ?_)
  have hP := hP.kept (H1 := H1) (fun k q hk => hk1 q.1 (hP k q hk).lt (fun h => h))
  generalize H1 = H at hP hS ⊢
  have hw : r2 = 0 := hw
  subst hw
  refine kn_iastS (i := 0) (x := 0) hx hb hK hP hD hS 3 1 rfl rfl (vp_in_iff.mpr (by decide)) (by decide +kernel) dX8_seedMatch_35 (fun H locs hP hD hS => ?_)
  refine lv_aload_n hx hb dX8_seedMatch_36 rfl (lv_at hl 2 rfl) ?_
  refine va_get (D := D) (ci := 8) (v := .ref h4) (C := RX8) (T := TX8) (N := 6) hx hb hts iw_k_X8_seedMatch_X8 hown hK hP 0 rfl rfl 4 (by decide) (hts (.fieldLink RX8 33 "TopTurned$Walks" "first" "[I") (by decide +kernel)) (fun _ h9 => h9) rfl dX8_seedMatch_37 ?_
  refine lv_iload_n hx hb dX8_seedMatch_40 rfl (lv_at hl 0 rfl) ?_
  refine lv_iconst (v := 2) hx hb dX8_seedMatch_41 (by decide) ?_
  refine va_iast (i := 0) (x := 2) hx hb hK hP hD hS 4 1 rfl rfl (vp_in_iff.mpr (by decide)) dX8_seedMatch_42 (fun H locs hP hD hS => ?_)
  have hP : va_P D vwCl [(h0, .inr (8, [.ref h1, .ref h2, .ref h6, .ref h5, .ref h4, .ref h3])), (h1, .inr (5, [.int 0, .int 1, .int 1, .int 1, .int 0, .ref h7, .ref h8, .ref h9, .ref h10, .ref h11, .ref h12])), (h2, .inr (3, [.ref h13, .ref h1, .ref h14, .ref h15, .ref h16, .int 0])), (h3, .inl (cI, 3840, .inl (fun _ => 0))), (h4, .inl (cI, 3840, .inl (upd (fun _ => 0) (Int32.toNatClampNeg 0) 2))), (h5, .inl (cI, 3840, .inl (fun _ => 0)))] H := hP
  have hD : va_D A [(h0, .inr (8, [.ref h1, .ref h2, .ref h6, .ref h5, .ref h4, .ref h3])), (h1, .inr (5, [.int 0, .int 1, .int 1, .int 1, .int 0, .ref h7, .ref h8, .ref h9, .ref h10, .ref h11, .ref h12])), (h2, .inr (3, [.ref h13, .ref h1, .ref h14, .ref h15, .ref h16, .int 0])), (h3, .inl (cI, 3840, .inl (fun _ => 0))), (h4, .inl (cI, 3840, .inl (upd (fun _ => 0) (Int32.toNatClampNeg 0) 2))), (h5, .inl (cI, 3840, .inl (fun _ => 0)))] := hD
  refine lv_aload_n hx hb dX8_seedMatch_43 rfl (lv_at hl 2 rfl) ?_
  refine va_get (D := D) (ci := 8) (v := .ref h3) (C := RX8) (T := TX8) (N := 6) hx hb hts iw_k_X8_seedMatch_X8 hown hK hP 0 rfl rfl 5 (by decide) (hts (.fieldLink RX8 37 "TopTurned$Walks" "second" "[I") (by decide +kernel)) (fun _ h9 => h9) rfl dX8_seedMatch_44 ?_
  refine lv_iload_n hx hb dX8_seedMatch_47 rfl (lv_at hl 0 rfl) ?_
  refine va_iald (i := 0) hx hb hK hP 3 1 rfl rfl (vp_in_iff.mpr (by decide)) dX8_seedMatch_48 ?_
  refine kt_eq (y := 0) (by decide +kernel) ?_
  refine lv_if_eq (tgt := 63) hx hb dX8_seedMatch_49 (by decide) (fun _ => ?_) (fun c => absurd (by decide) c)
  refine lv_aload_n hx hb dX8_seedMatch_63 rfl (lv_at hl 2 rfl) ?_
  refine va_get (D := D) (ci := 8) (v := .ref h4) (C := RX8) (T := TX8) (N := 6) hx hb hts iw_k_X8_seedMatch_X8 hown hK hP 0 rfl rfl 4 (by decide) (hts (.fieldLink RX8 33 "TopTurned$Walks" "first" "[I") (by decide +kernel)) (fun _ h9 => h9) rfl dX8_seedMatch_64 ?_
  refine lv_iload_n hx hb dX8_seedMatch_67 rfl (lv_at hl 0 rfl) ?_
  refine lv_iconst (v := 0) hx hb dX8_seedMatch_68 (by decide) ?_
  refine va_iast (i := 0) (x := 0) hx hb hK hP hD hS 4 1 rfl rfl (vp_in_iff.mpr (by decide)) dX8_seedMatch_69 (fun H locs hP hD hS => ?_)
  have hP : va_P D vwCl [(h0, .inr (8, [.ref h1, .ref h2, .ref h6, .ref h5, .ref h4, .ref h3])), (h1, .inr (5, [.int 0, .int 1, .int 1, .int 1, .int 0, .ref h7, .ref h8, .ref h9, .ref h10, .ref h11, .ref h12])), (h2, .inr (3, [.ref h13, .ref h1, .ref h14, .ref h15, .ref h16, .int 0])), (h3, .inl (cI, 3840, .inl (fun _ => 0))), (h4, .inl (cI, 3840, .inl (upd (upd (fun _ => 0) (Int32.toNatClampNeg 0) 2) (Int32.toNatClampNeg 0) 0))), (h5, .inl (cI, 3840, .inl (fun _ => 0)))] H := hP
  have hD : va_D A [(h0, .inr (8, [.ref h1, .ref h2, .ref h6, .ref h5, .ref h4, .ref h3])), (h1, .inr (5, [.int 0, .int 1, .int 1, .int 1, .int 0, .ref h7, .ref h8, .ref h9, .ref h10, .ref h11, .ref h12])), (h2, .inr (3, [.ref h13, .ref h1, .ref h14, .ref h15, .ref h16, .int 0])), (h3, .inl (cI, 3840, .inl (fun _ => 0))), (h4, .inl (cI, 3840, .inl (upd (upd (fun _ => 0) (Int32.toNatClampNeg 0) 2) (Int32.toNatClampNeg 0) 0))), (h5, .inl (cI, 3840, .inl (fun _ => 0)))] := hD
  refine lv_aload_n hx hb dX8_seedMatch_70 rfl (lv_at hl 2 rfl) ?_
  refine va_get (D := D) (ci := 8) (v := .ref h5) (C := RX8) (T := TX8) (N := 6) hx hb hts iw_k_X8_seedMatch_X8 hown hK hP 0 rfl rfl 3 (by decide) (hts (.fieldLink RX8 29 "TopTurned$Walks" "queue" "[I") (by decide +kernel)) (fun _ h9 => h9) rfl dX8_seedMatch_71 ?_
  refine lv_iload_n hx hb dX8_seedMatch_74 rfl (lv_at hl 1 rfl) ?_
  refine lv_iload_n hx hb dX8_seedMatch_75 rfl (lv_at hl 0 rfl) ?_
  refine kn_iastS (i := 0) (x := 0) hx hb hK hP hD hS 5 1 rfl rfl (vp_in_iff.mpr (by decide)) (by decide +kernel) dX8_seedMatch_76 (fun H locs hP hD hS => ?_)
  refine lv_iinc (v := 1) (lv' := [(1, .int 1), (2, .int 0), (0, .ref h0)]) hx hb dX8_seedMatch_77 hl (k := 1) rfl (by decide) (by decide) rfl (fun ls hl => ?_)
  refine lv_iinc (v := 1) (lv' := [(2, .int 1), (1, .int 1), (0, .ref h0)]) hx hb dX8_seedMatch_80 hl (k := 1) rfl (by decide) (by decide) rfl (fun ls hl => ?_)
  refine lv_goto (tgt := 4) hx hb dX8_seedMatch_83 (by decide) ?_
  refine lv_iload_n hx hb dX8_seedMatch_4 rfl (lv_at hl 0 rfl) ?_
  refine lv_aload_n hx hb dX8_seedMatch_5 rfl (lv_at hl 2 rfl) ?_
  refine va_get (D := D) (ci := 8) (v := .ref h1) (C := RX8) (T := TX8) (N := 6) hx hb hts iw_k_X8_seedMatch_X8 hown hK hP 0 rfl rfl 0 (by decide) (hts (.fieldLink RX8 9 "TopTurned$Walks" "space" "LTopTurned$Space;") (by decide +kernel)) (fun _ h9 => h9) rfl dX8_seedMatch_6 ?_
  refine va_get (D := D) (ci := 5) (v := .int 1) (C := RX5) (T := TX5) (N := 11) hx hb hts iw_k_X8_seedMatch_X5 hown hK hP 1 rfl rfl 3 (by decide) (hts (.fieldLink RX8 48 "TopTurned$Space" "states" "I") (by decide +kernel)) (fun _ h9 => h9) rfl dX8_seedMatch_9 ?_
  refine lv_icmp_ge (tgt := 86) hx hb dX8_seedMatch_12 (by decide) (fun _ => ?_) (fun c => absurd (by decide) c)
  refine lv_iload_n hx hb dX8_seedMatch_86 rfl (lv_at hl 1 rfl) ?_
  refine W.widen (k := 0) (n := 0) (Nat.le_of_ble_eq_true rfl) (Nat.le_of_ble_eq_true rfl) ?_
  have hP9 := hP.sub (ws' := [(h0, .inr (8, [.ref h1, .ref h2, .ref h6, .ref h5, .ref h4, .ref h3])), (h1, .inr (5, [.int 0, .int 1, .int 1, .int 1, .int 0, .ref h7, .ref h8, .ref h9, .ref h10, .ref h11, .ref h12])), (h2, .inr (3, [.ref h13, .ref h1, .ref h14, .ref h15, .ref h16, .int 0])), (h3, .inl (cI, 3840, .inl (fun _ => 0))), (h4, .inl (cI, 3840, .inl (upd (upd (fun _ => 0) (Int32.toNatClampNeg 0) 2) (Int32.toNatClampNeg 0) 0))), (h5, .inl (cI, 3840, .inl (fun _ => 0)))]) [0, 1, 2, 3, 4, 5] rfl
  have hD9 := hD.sub (ws' := [(h0, .inr (8, [.ref h1, .ref h2, .ref h6, .ref h5, .ref h4, .ref h3])), (h1, .inr (5, [.int 0, .int 1, .int 1, .int 1, .int 0, .ref h7, .ref h8, .ref h9, .ref h10, .ref h11, .ref h12])), (h2, .inr (3, [.ref h13, .ref h1, .ref h14, .ref h15, .ref h16, .int 0])), (h3, .inl (cI, 3840, .inl (fun _ => 0))), (h4, .inl (cI, 3840, .inl (upd (upd (fun _ => 0) (Int32.toNatClampNeg 0) 2) (Int32.toNatClampNeg 0) 0))), (h5, .inl (cI, 3840, .inl (fun _ => 0)))]) [0, 1, 2, 3, 4, 5] (by decide) rfl
  exact W.iret (v := 1) hx hb hr (fun t ht hW => ⟨⟨1, (), rfl, rfl, ⟨by rw [ht]; exact hP9, hD9⟩⟩, hS.F ht⟩) hS.2.2 dX8_seedMatch_87
def sw_k_X8_matchFrom : List Cond := .code yX8_matchFrom cX8_matchFrom 8 (some .int) :: (([.methodLink RX8 84 yX8_seedMatch, .instanceMethod yX8_seedMatch, .selects RX8 yX8_seedMatch yX8_seedMatch, .initialized RX8, .fieldLink RX8 29 "TopTurned$Walks" "queue" "[I", .fieldLink RX8 9 "TopTurned$Walks" "space" "LTopTurned$Space;", .methodLink RX8 58 yX5_orderIn, .instanceMethod yX5_orderIn, .selects RX5 yX5_orderIn yX5_orderIn, .initialized RX5, .fieldLink RX8 62 "TopTurned$Space" "turns" "I", .fieldLink RX8 33 "TopTurned$Walks" "first" "[I"] : List Cond) ++ (sw_k_X8_seedMatch ++ (wsX80 ++ (sw_k_X5_orderIn ++ (wsX50 ++ (([] : List Cond)))))))
theorem gd_k_X8_matchFrom : ∀ w ∈ sw_k_X8_matchFrom, (w.onTables && w.keeps) = true ∨ ∃ ty, w = .arrayClass ty := List.forall_mem_cons.mpr ⟨good_of_word rfl, List.forall_mem_append.mpr ⟨fun w h => good_of_word (List.all_eq_true.mp (by decide +kernel : (([.methodLink RX8 84 yX8_seedMatch, .instanceMethod yX8_seedMatch, .selects RX8 yX8_seedMatch yX8_seedMatch, .initialized RX8, .fieldLink RX8 29 "TopTurned$Walks" "queue" "[I", .fieldLink RX8 9 "TopTurned$Walks" "space" "LTopTurned$Space;", .methodLink RX8 58 yX5_orderIn, .instanceMethod yX5_orderIn, .selects RX5 yX5_orderIn yX5_orderIn, .initialized RX5, .fieldLink RX8 62 "TopTurned$Space" "turns" "I", .fieldLink RX8 33 "TopTurned$Walks" "first" "[I"] : List Cond)).all goodWord = true) w h), List.forall_mem_append.mpr ⟨gd_k_X8_seedMatch, List.forall_mem_append.mpr ⟨gw_X8, List.forall_mem_append.mpr ⟨gd_k_X5_orderIn, List.forall_mem_append.mpr ⟨gw_X5, fun _ h => absurd h List.not_mem_nil⟩⟩⟩⟩⟩⟩
theorem gc_k_X8_matchFrom_k_X8_seedMatch : GoodIn sw_k_X8_matchFrom sw_k_X8_seedMatch := fun w h => ⟨List.mem_cons_of_mem _ (List.mem_append_right _ (List.mem_append_left _ h)), gd_k_X8_seedMatch w h⟩
theorem iw_k_X8_matchFrom_X8 : ∀ w ∈ wsX80, w ∈ sw_k_X8_matchFrom := fun _ h => List.mem_cons_of_mem _ (List.mem_append_right _ (List.mem_append_right _ (List.mem_append_left _ h)))
theorem gc_k_X8_matchFrom_k_X5_orderIn : GoodIn sw_k_X8_matchFrom sw_k_X5_orderIn := fun w h => ⟨List.mem_cons_of_mem _ (List.mem_append_right _ (List.mem_append_right _ (List.mem_append_right _ (List.mem_append_left _ h)))), gd_k_X5_orderIn w h⟩
theorem iw_k_X8_matchFrom_X5 : ∀ w ∈ wsX50, w ∈ sw_k_X8_matchFrom := fun _ h => List.mem_cons_of_mem _ (List.mem_append_right _ (List.mem_append_right _ (List.mem_append_right _ (List.mem_append_right _ (List.mem_append_left _ h)))))
set_option maxHeartbeats 4000000 in
set_option maxRecDepth 100000 in
theorem k_X8_matchFrom (l : Launch) (D : va_G) (cC cI cZ : ClassId) (h0 h1 h2 h3 h4 h5 h6 h7 h8 h9 h10 h11 h12 h13 h14 h15 h16 : Nat) (sz : Nat) : Met l yX8_matchFrom sw_k_X8_matchFrom ({ frames := 6, cells := 0, slots := 0, locals := 300 }) (va_Pc [.ref h0, .int 0] (kPre D cC cI cZ [(h0, .inr (8, [.ref h1, .ref h2, .ref h6, .ref h5, .ref h4, .ref h3])), (h1, .inr (5, [.int 0, .int 1, .int 1, .int 1, .int 0, .ref h7, .ref h8, .ref h9, .ref h10, .ref h11, .ref h12])), (h2, .inr (3, [.ref h13, .ref h1, .ref h14, .ref h15, .ref h16, .int 0])), (h3, .inl (cI, 3840, .inl (fun _ => 0))), (h4, .inl (cI, 3840, .inl (fun _ => 0))), (h5, .inl (cI, 3840, .inl (fun _ => 0)))] sz)) (va_Qi (fun (r : Int32) (_ : Unit) => r = 0) (fun _ t => va_P D vwCl [(h0, .inr (8, [.ref h1, .ref h2, .ref h6, .ref h5, .ref h4, .ref h3])), (h1, .inr (5, [.int 0, .int 1, .int 1, .int 1, .int 0, .ref h7, .ref h8, .ref h9, .ref h10, .ref h11, .ref h12])), (h2, .inr (3, [.ref h13, .ref h1, .ref h14, .ref h15, .ref h16, .int 0])), (h3, .inl (cI, 3840, .inl (fun _ => 0))), (h4, .inl (cI, 3840, .inl (upd (upd (fun _ => 0) (Int32.toNatClampNeg 0) 2) (Int32.toNatClampNeg 0) 0))), (h5, .inl (cI, 3840, .inl (fun _ => 0)))] t.heap ∧ va_D (va_A [(h0, .inr (8, [.ref h1, .ref h2, .ref h6, .ref h5, .ref h4, .ref h3])), (h1, .inr (5, [.int 0, .int 1, .int 1, .int 1, .int 0, .ref h7, .ref h8, .ref h9, .ref h10, .ref h11, .ref h12])), (h2, .inr (3, [.ref h13, .ref h1, .ref h14, .ref h15, .ref h16, .int 0])), (h3, .inl (cI, 3840, .inl (fun _ => 0))), (h4, .inl (cI, 3840, .inl (fun _ => 0))), (h5, .inl (cI, 3840, .inl (fun _ => 0)))] sz) [(h0, .inr (8, [.ref h1, .ref h2, .ref h6, .ref h5, .ref h4, .ref h3])), (h1, .inr (5, [.int 0, .int 1, .int 1, .int 1, .int 0, .ref h7, .ref h8, .ref h9, .ref h10, .ref h11, .ref h12])), (h2, .inr (3, [.ref h13, .ref h1, .ref h14, .ref h15, .ref h16, .int 0])), (h3, .inl (cI, 3840, .inl (fun _ => 0))), (h4, .inl (cI, 3840, .inl (upd (upd (fun _ => 0) (Int32.toNatClampNeg 0) 2) (Int32.toNatClampNeg 0) 0))), (h5, .inl (cI, 3840, .inl (fun _ => 0)))]) (va_A [(h0, .inr (8, [.ref h1, .ref h2, .ref h6, .ref h5, .ref h4, .ref h3])), (h1, .inr (5, [.int 0, .int 1, .int 1, .int 1, .int 0, .ref h7, .ref h8, .ref h9, .ref h10, .ref h11, .ref h12])), (h2, .inr (3, [.ref h13, .ref h1, .ref h14, .ref h15, .ref h16, .int 0])), (h3, .inl (cI, 3840, .inl (fun _ => 0))), (h4, .inl (cI, 3840, .inl (fun _ => 0))), (h5, .inl (cI, 3840, .inl (fun _ => 0)))] sz)) 0 0 (va_A [(h0, .inr (8, [.ref h1, .ref h2, .ref h6, .ref h5, .ref h4, .ref h3])), (h1, .inr (5, [.int 0, .int 1, .int 1, .int 1, .int 0, .ref h7, .ref h8, .ref h9, .ref h10, .ref h11, .ref h12])), (h2, .inr (3, [.ref h13, .ref h1, .ref h14, .ref h15, .ref h16, .int 0])), (h3, .inl (cI, 3840, .inl (fun _ => 0))), (h4, .inl (cI, 3840, .inl (fun _ => 0))), (h5, .inl (cI, 3840, .inl (fun _ => 0)))] sz) := by
  refine Met.ofW (cc := cX8_matchFrom) (maxL := 8) (ret := (some .int)) (by decide) rfl ?_
  intro p e s m args below meth c s₁ B hml hv
  obtain ⟨rfl, hsz, hP, hK, hD0⟩ := hv
  have hx := B.exec
  have hb := B.bytes
  have hr := B.returns
  have hts := atoms_spec (ws := sw_k_X8_matchFrom) B.pre
  have hown : s.vm.findClass RX8 = some m.cls := findClass_of_methodNamed B.named
  have hlocks := B.notSynchronized
  subst hsz
  have hD := hD0.self (sz := s.heap.size)
  generalize hAe : va_A [(h0, .inr (8, [.ref h1, .ref h2, .ref h6, .ref h5, .ref h4, .ref h3])), (h1, .inr (5, [.int 0, .int 1, .int 1, .int 1, .int 0, .ref h7, .ref h8, .ref h9, .ref h10, .ref h11, .ref h12])), (h2, .inr (3, [.ref h13, .ref h1, .ref h14, .ref h15, .ref h16, .int 0])), (h3, .inl (cI, 3840, .inl (fun _ => 0))), (h4, .inl (cI, 3840, .inl (fun _ => 0))), (h5, .inl (cI, 3840, .inl (fun _ => 0)))] s.heap.size = A at hD ⊢
  have hA : ∀ q : Nat, s.heap.size ≤ q → A q := fun q h => by rw [← hAe]; exact Or.inr h
  have hS : va_S A s.heap s.heap [] := va_S.rf
  have hl := lv_entry ([.ref h0, .int 0]) (n := 8) (Nat.le_of_ble_eq_true rfl)
  rw [lg_entry_eq]
  generalize (lg_sl ([.ref h0, .int 0]) ++ List.replicate (8 - (lg_sl ([.ref h0, .int 0])).length) Slot.unset).toArray = ls at hl ⊢
  have hl : lv_has ls 8 [(0, .ref h0), (1, .int 0)] := hl
  refine lv_aload_n hx hb dX8_matchFrom_0 rfl (lv_at hl 0 rfl) ?_
  have hPc := hP.sub (ws' := [(h0, .inr (8, [.ref h1, .ref h2, .ref h6, .ref h5, .ref h4, .ref h3])), (h1, .inr (5, [.int 0, .int 1, .int 1, .int 1, .int 0, .ref h7, .ref h8, .ref h9, .ref h10, .ref h11, .ref h12])), (h2, .inr (3, [.ref h13, .ref h1, .ref h14, .ref h15, .ref h16, .int 0])), (h3, .inl (cI, 3840, .inl (fun _ => 0))), (h4, .inl (cI, 3840, .inl (fun _ => 0))), (h5, .inl (cI, 3840, .inl (fun _ => 0)))]) [0, 1, 2, 3, 4, 5] rfl
  have hDc := hD.sub (ws' := [(h0, .inr (8, [.ref h1, .ref h2, .ref h6, .ref h5, .ref h4, .ref h3])), (h1, .inr (5, [.int 0, .int 1, .int 1, .int 1, .int 0, .ref h7, .ref h8, .ref h9, .ref h10, .ref h11, .ref h12])), (h2, .inr (3, [.ref h13, .ref h1, .ref h14, .ref h15, .ref h16, .int 0])), (h3, .inl (cI, 3840, .inl (fun _ => 0))), (h4, .inl (cI, 3840, .inl (fun _ => 0))), (h5, .inl (cI, 3840, .inl (fun _ => 0)))]) [0, 1, 2, 3, 4, 5] (by decide) rfl
  have hFc := va_free (wc := [(h0, .inr (8, [.ref h1, .ref h2, .ref h6, .ref h5, .ref h4, .ref h3])), (h1, .inr (5, [.int 0, .int 1, .int 1, .int 1, .int 0, .ref h7, .ref h8, .ref h9, .ref h10, .ref h11, .ref h12])), (h2, .inr (3, [.ref h13, .ref h1, .ref h14, .ref h15, .ref h16, .int 0])), (h3, .inl (cI, 3840, .inl (fun _ => 0))), (h4, .inl (cI, 3840, .inl (fun _ => 0))), (h5, .inl (cI, 3840, .inl (fun _ => 0)))]) hD hS hA [0, 1, 2, 3, 4, 5] rfl
  refine va_calli (va_runV (As := []) (rest := []) ⟨hx, hb, hml, hown, hts⟩ (k_X8_seedMatch l D cC cI cZ h0 h1 h2 h3 h4 h5 h6 h7 h8 h9 h10 h11 h12 h13 h14 h15 h16 s.heap.size ) (cwV (C := RX8) 0 hts (goodIn_app (goodIn_of _ (by decide +kernel)) gc_k_X8_matchFrom_k_X8_seedMatch) rfl rfl rfl (by decide +kernel) ⟨(Nat.le_of_ble_eq_true rfl), (Nat.le_of_ble_eq_true rfl)⟩) (kPreV hK hPc hDc (va_recv hK hPc (ci := 8) (q0 := 0) rfl rfl)) rfl rfl hl.1 rfl (lv_room (Nat.le_of_ble_eq_true rfl)) dX8_matchFrom_1 ⟨(Nat.le_of_ble_eq_true rfl), (Nat.le_of_ble_eq_true rfl)⟩) hS (fun q _ h => hFc q h) hFc (fun r1 u t H1 locs ht hvm hw hB hz1 hk1 hS => ?_)
  obtain ⟨hP1, hD1⟩ := hB
  rw [ht] at hP1
  obtain ⟨hP, hD⟩ := va_join (wr := []) (w1 := [(h0, .inr (8, [.ref h1, .ref h2, .ref h6, .ref h5, .ref h4, .ref h3])), (h1, .inr (5, [.int 0, .int 1, .int 1, .int 1, .int 0, .ref h7, .ref h8, .ref h9, .ref h10, .ref h11, .ref h12])), (h2, .inr (3, [.ref h13, .ref h1, .ref h14, .ref h15, .ref h16, .int 0])), (h3, .inl (cI, 3840, .inl (fun _ => 0))), (h4, .inl (cI, 3840, .inl (upd (upd (fun _ => 0) (Int32.toNatClampNeg 0) 2) (Int32.toNatClampNeg 0) 0))), (h5, .inl (cI, 3840, .inl (fun _ => 0)))]) hP hD [0, 1, 2, 3, 4, 5] [] rfl rfl (by decide) (by decide) hk1 hFc hP1 hD1
  generalize H1 = H at hP hS ⊢
  have hP : va_P D vwCl [(h0, .inr (8, [.ref h1, .ref h2, .ref h6, .ref h5, .ref h4, .ref h3])), (h1, .inr (5, [.int 0, .int 1, .int 1, .int 1, .int 0, .ref h7, .ref h8, .ref h9, .ref h10, .ref h11, .ref h12])), (h2, .inr (3, [.ref h13, .ref h1, .ref h14, .ref h15, .ref h16, .int 0])), (h3, .inl (cI, 3840, .inl (fun _ => 0))), (h4, .inl (cI, 3840, .inl (upd (upd (fun _ => 0) (Int32.toNatClampNeg 0) 2) (Int32.toNatClampNeg 0) 0))), (h5, .inl (cI, 3840, .inl (fun _ => 0)))] H := hP
  have hD : va_D A [(h0, .inr (8, [.ref h1, .ref h2, .ref h6, .ref h5, .ref h4, .ref h3])), (h1, .inr (5, [.int 0, .int 1, .int 1, .int 1, .int 0, .ref h7, .ref h8, .ref h9, .ref h10, .ref h11, .ref h12])), (h2, .inr (3, [.ref h13, .ref h1, .ref h14, .ref h15, .ref h16, .int 0])), (h3, .inl (cI, 3840, .inl (fun _ => 0))), (h4, .inl (cI, 3840, .inl (upd (upd (fun _ => 0) (Int32.toNatClampNeg 0) 2) (Int32.toNatClampNeg 0) 0))), (h5, .inl (cI, 3840, .inl (fun _ => 0)))] := hD
  have hw : r1 = 1 := hw
  subst hw
  refine lv_istore_n (lv' := [(2, .int 1), (0, .ref h0), (1, .int 0)]) hx hb dX8_matchFrom_4 rfl hl (by decide) rfl (fun ls hl => ?_)
  refine lv_iconst (v := 0) hx hb dX8_matchFrom_5 (by decide) ?_
  refine lv_istore_n (lv' := [(3, .int 0), (2, .int 1), (0, .ref h0), (1, .int 0)]) hx hb dX8_matchFrom_6 rfl hl (by decide) rfl (fun ls hl => ?_)
  refine lv_iload_n hx hb dX8_matchFrom_7 rfl (lv_at hl 0 rfl) ?_
  refine lv_iload_n hx hb dX8_matchFrom_8 rfl (lv_at hl 1 rfl) ?_
  refine lv_icmp_ge (tgt := 135) hx hb dX8_matchFrom_9 (by decide) (fun c => absurd c (by decide)) (fun _ => ?_)
  refine lv_iload_n hx hb dX8_matchFrom_12 rfl (lv_at hl 0 rfl) ?_
  refine lv_sipush (v := 3840) hx hb dX8_matchFrom_13 (by decide) ?_
  refine lv_icmp_ge (tgt := 135) hx hb dX8_matchFrom_16 (by decide) (fun c => absurd c (by decide)) (fun _ => ?_)
  refine lv_aload_n hx hb dX8_matchFrom_19 rfl (lv_at hl 2 rfl) ?_
  refine va_get (D := D) (ci := 8) (v := .ref h5) (C := RX8) (T := TX8) (N := 6) hx hb hts iw_k_X8_matchFrom_X8 hown hK hP 0 rfl rfl 3 (by decide) (hts (.fieldLink RX8 29 "TopTurned$Walks" "queue" "[I") (by decide +kernel)) (fun _ h9 => h9) rfl dX8_matchFrom_20 ?_
  refine lv_iload_n hx hb dX8_matchFrom_23 rfl (lv_at hl 0 rfl) ?_
  refine va_iald (i := 0) hx hb hK hP 5 1 rfl rfl (vp_in_iff.mpr (by decide)) dX8_matchFrom_24 ?_
  refine kt_eq (y := 0) (by decide +kernel) ?_
  refine lv_istore (lv' := [(4, .int 0), (3, .int 0), (2, .int 1), (0, .ref h0), (1, .int 0)]) hx hb dX8_matchFrom_25 hl (by decide) rfl (fun ls hl => ?_)
  refine lv_aload_n hx hb dX8_matchFrom_27 rfl (lv_at hl 3 rfl) ?_
  refine va_get (D := D) (ci := 8) (v := .ref h1) (C := RX8) (T := TX8) (N := 6) hx hb hts iw_k_X8_matchFrom_X8 hown hK hP 0 rfl rfl 0 (by decide) (hts (.fieldLink RX8 9 "TopTurned$Walks" "space" "LTopTurned$Space;") (by decide +kernel)) (fun _ h9 => h9) rfl dX8_matchFrom_28 ?_
  refine lv_iload hx hb dX8_matchFrom_31 (lv_at hl 0 rfl) ?_
  have hPc := hP.sub (ws' := [(h1, .inr (5, [.int 0, .int 1, .int 1, .int 1, .int 0, .ref h7, .ref h8, .ref h9, .ref h10, .ref h11, .ref h12]))]) [1] rfl
  have hDc := hD.sub (ws' := [(h1, .inr (5, [.int 0, .int 1, .int 1, .int 1, .int 0, .ref h7, .ref h8, .ref h9, .ref h10, .ref h11, .ref h12]))]) [1] (by decide) rfl
  refine va_calli (va_runV (As := [.int 0]) (rest := []) ⟨hx, hb, hml, hown, hts⟩ (k_X5_orderIn l D cC cI cZ h1 h7 h8 h9 h10 h11 h12 H.size ) (cwV (C := RX5) 1 hts (goodIn_app (goodIn_of _ (by decide +kernel)) gc_k_X8_matchFrom_k_X5_orderIn) rfl rfl rfl (by decide +kernel) ⟨(Nat.le_of_ble_eq_true rfl), (Nat.le_of_ble_eq_true rfl)⟩) (kPreV hK hPc hDc (va_recv hK hPc (ci := 5) (q0 := 0) rfl rfl)) rfl rfl hl.1 rfl (lv_room (Nat.le_of_ble_eq_true rfl)) dX8_matchFrom_33 ⟨(Nat.le_of_ble_eq_true rfl), (Nat.le_of_ble_eq_true rfl)⟩) hS (fun q _ h => False.elim h) (fun q h => False.elim h) (fun r2 u t H1 locs ht hvm hw hB hz1 hk1 hS => ?_)
  have hP := hP.kept (H1 := H1) (fun k q hk => hk1 q.1 (hP k q hk).lt (fun h => h))
  generalize H1 = H at hP hS ⊢
  have hw : r2 = 0 := hw
  subst hw
  refine lv_istore (lv' := [(5, .int 0), (4, .int 0), (3, .int 0), (2, .int 1), (0, .ref h0), (1, .int 0)]) hx hb dX8_matchFrom_36 hl (by decide) rfl (fun ls hl => ?_)
  refine lv_iconst (v := 0) hx hb dX8_matchFrom_38 (by decide) ?_
  refine lv_istore (lv' := [(6, .int 0), (5, .int 0), (4, .int 0), (3, .int 0), (2, .int 1), (0, .ref h0), (1, .int 0)]) hx hb dX8_matchFrom_39 hl (by decide) rfl (fun ls hl => ?_)
  refine lv_iload hx hb dX8_matchFrom_41 (lv_at hl 0 rfl) ?_
  refine lv_aload_n hx hb dX8_matchFrom_43 rfl (lv_at hl 5 rfl) ?_
  refine va_get (D := D) (ci := 8) (v := .ref h1) (C := RX8) (T := TX8) (N := 6) hx hb hts iw_k_X8_matchFrom_X8 hown hK hP 0 rfl rfl 0 (by decide) (hts (.fieldLink RX8 9 "TopTurned$Walks" "space" "LTopTurned$Space;") (by decide +kernel)) (fun _ h9 => h9) rfl dX8_matchFrom_44 ?_
  refine va_get (D := D) (ci := 5) (v := .int 0) (C := RX5) (T := TX5) (N := 11) hx hb hts iw_k_X8_matchFrom_X5 hown hK hP 1 rfl rfl 4 (by decide) (hts (.fieldLink RX8 62 "TopTurned$Space" "turns" "I") (by decide +kernel)) (fun _ h9 => h9) rfl dX8_matchFrom_47 ?_
  refine lv_icmp_ge (tgt := 129) hx hb dX8_matchFrom_50 (by decide) (fun _ => ?_) (fun c => absurd (by decide) c)
  refine lv_iinc (v := 1) (lv' := [(3, .int 1), (6, .int 0), (5, .int 0), (4, .int 0), (2, .int 1), (0, .ref h0), (1, .int 0)]) hx hb dX8_matchFrom_129 hl (k := 3) rfl (by decide) (by decide) rfl (fun ls hl => ?_)
  refine lv_goto (tgt := 7) hx hb dX8_matchFrom_132 (by decide) ?_
  refine lv_iload_n hx hb dX8_matchFrom_7 rfl (lv_at hl 0 rfl) ?_
  refine lv_iload_n hx hb dX8_matchFrom_8 rfl (lv_at hl 4 rfl) ?_
  refine lv_icmp_ge (tgt := 135) hx hb dX8_matchFrom_9 (by decide) (fun _ => ?_) (fun c => absurd (by decide) c)
  refine lv_aload_n hx hb dX8_matchFrom_135 rfl (lv_at hl 5 rfl) ?_
  refine va_get (D := D) (ci := 8) (v := .ref h4) (C := RX8) (T := TX8) (N := 6) hx hb hts iw_k_X8_matchFrom_X8 hown hK hP 0 rfl rfl 4 (by decide) (hts (.fieldLink RX8 33 "TopTurned$Walks" "first" "[I") (by decide +kernel)) (fun _ h9 => h9) rfl dX8_matchFrom_136 ?_
  refine lv_iload_n hx hb dX8_matchFrom_139 rfl (lv_at hl 6 rfl) ?_
  refine va_iald (i := 0) hx hb hK hP 4 1 rfl rfl (vp_in_iff.mpr (by decide)) dX8_matchFrom_140 ?_
  refine kt_eq (y := 0) (by decide +kernel) ?_
  refine W.widen (k := 0) (n := 0) (Nat.le_of_ble_eq_true rfl) (Nat.le_of_ble_eq_true rfl) ?_
  have hP9 := hP.sub (ws' := [(h0, .inr (8, [.ref h1, .ref h2, .ref h6, .ref h5, .ref h4, .ref h3])), (h1, .inr (5, [.int 0, .int 1, .int 1, .int 1, .int 0, .ref h7, .ref h8, .ref h9, .ref h10, .ref h11, .ref h12])), (h2, .inr (3, [.ref h13, .ref h1, .ref h14, .ref h15, .ref h16, .int 0])), (h3, .inl (cI, 3840, .inl (fun _ => 0))), (h4, .inl (cI, 3840, .inl (upd (upd (fun _ => 0) (Int32.toNatClampNeg 0) 2) (Int32.toNatClampNeg 0) 0))), (h5, .inl (cI, 3840, .inl (fun _ => 0)))]) [0, 1, 2, 3, 4, 5] rfl
  have hD9 := hD.sub (ws' := [(h0, .inr (8, [.ref h1, .ref h2, .ref h6, .ref h5, .ref h4, .ref h3])), (h1, .inr (5, [.int 0, .int 1, .int 1, .int 1, .int 0, .ref h7, .ref h8, .ref h9, .ref h10, .ref h11, .ref h12])), (h2, .inr (3, [.ref h13, .ref h1, .ref h14, .ref h15, .ref h16, .int 0])), (h3, .inl (cI, 3840, .inl (fun _ => 0))), (h4, .inl (cI, 3840, .inl (upd (upd (fun _ => 0) (Int32.toNatClampNeg 0) 2) (Int32.toNatClampNeg 0) 0))), (h5, .inl (cI, 3840, .inl (fun _ => 0)))]) [0, 1, 2, 3, 4, 5] (by decide) rfl
  exact W.iret (v := 0) hx hb hr (fun t ht hW => ⟨⟨0, (), rfl, rfl, ⟨by rw [ht]; exact hP9, hD9⟩⟩, hS.F ht⟩) hS.2.2 dX8_matchFrom_141
