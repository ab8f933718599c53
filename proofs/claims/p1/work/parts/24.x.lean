def sw_k_X9_far : List Cond := .code yX9_far cX9_far 2 (some .int) :: (([.fieldLink RX9 59 "TopTurned" "chart" "LTopTurned$Chart;", .methodLink RX9 171 yX1_howManyAt, .instanceMethod yX1_howManyAt, .selects RX1 yX1_howManyAt yX1_howManyAt, .initialized RX1, .methodLink RX9 94 yX9_refuse, .instanceMethod yX9_refuse, .selects RX9 yX9_refuse yX9_refuse, .initialized RX9] : List Cond) ++ (wsX90 ++ (sw_k_X1_howManyAt ++ (sw_k_X9_refuse ++ (sw_k_X9_refuse_1 ++ (([] : List Cond)))))))
theorem gd_k_X9_far : ∀ w ∈ sw_k_X9_far, (w.onTables && w.keeps) = true ∨ ∃ ty, w = .arrayClass ty := List.forall_mem_cons.mpr ⟨good_of_word rfl, List.forall_mem_append.mpr ⟨fun w h => good_of_word (List.all_eq_true.mp (by decide +kernel : (([.fieldLink RX9 59 "TopTurned" "chart" "LTopTurned$Chart;", .methodLink RX9 171 yX1_howManyAt, .instanceMethod yX1_howManyAt, .selects RX1 yX1_howManyAt yX1_howManyAt, .initialized RX1, .methodLink RX9 94 yX9_refuse, .instanceMethod yX9_refuse, .selects RX9 yX9_refuse yX9_refuse, .initialized RX9] : List Cond)).all goodWord = true) w h), List.forall_mem_append.mpr ⟨gw_X9, List.forall_mem_append.mpr ⟨gd_k_X1_howManyAt, List.forall_mem_append.mpr ⟨gd_k_X9_refuse, List.forall_mem_append.mpr ⟨gd_k_X9_refuse_1, fun _ h => absurd h List.not_mem_nil⟩⟩⟩⟩⟩⟩
theorem iw_k_X9_far_X9 : ∀ w ∈ wsX90, w ∈ sw_k_X9_far := fun _ h => List.mem_cons_of_mem _ (List.mem_append_right _ (List.mem_append_left _ h))
theorem gc_k_X9_far_k_X1_howManyAt : GoodIn sw_k_X9_far sw_k_X1_howManyAt := fun w h => ⟨List.mem_cons_of_mem _ (List.mem_append_right _ (List.mem_append_right _ (List.mem_append_left _ h))), gd_k_X1_howManyAt w h⟩
theorem gc_k_X9_far_k_X9_refuse : GoodIn sw_k_X9_far sw_k_X9_refuse := fun w h => ⟨List.mem_cons_of_mem _ (List.mem_append_right _ (List.mem_append_right _ (List.mem_append_right _ (List.mem_append_left _ h)))), gd_k_X9_refuse w h⟩
theorem gc_k_X9_far_k_X9_refuse_1 : GoodIn sw_k_X9_far sw_k_X9_refuse_1 := fun w h => ⟨List.mem_cons_of_mem _ (List.mem_append_right _ (List.mem_append_right _ (List.mem_append_right _ (List.mem_append_right _ (List.mem_append_left _ h))))), gd_k_X9_refuse_1 w h⟩
set_option maxHeartbeats 4000000 in
set_option maxRecDepth 100000 in
theorem k_X9_far (l : Launch) (D : va_G) (cC cI cZ : ClassId) (h0 h1 h2 h3 h4 h5 h6 h7 h8 h9 h10 h11 h12 h13 h14 h15 h16 h17 h18 h19 h20 h21 h22 h23 h24 h25 : Nat) (sz : Nat) (p1 : Int32) : Met l yX9_far sw_k_X9_far ({ frames := 10, cells := 0, slots := 0, locals := 500 }) (va_Pc [.ref h0, .int p1] (kPre D cC cI cZ [(h0, .inr (9, [.ref h9, .ref h10, .ref h11, .int 0, .ref h12, .ref h2, .ref h4, .ref h1, .ref h13, .ref h14, .ref h15, .ref h8])), (h1, .inr (1, [.ref h2, .ref h4, .ref h7, .ref h16, .ref h3, .ref h6, .ref h17, .int 0, .int 0])), (h2, .inr (5, [.int 0, .int 1, .int 1, .int 1, .int 0, .ref h18, .ref h19, .ref h20, .ref h21, .ref h22, .ref h23])), (h3, .inl (cI, 3840, .inl (fun _ => 0))), (h4, .inr (3, [.ref h9, .ref h2, .ref h24, .ref h5, .ref h25, .int 0])), (h5, .inl (cZ, 120, .inl (upd (fun _ => 0) (Int32.toNatClampNeg 0) (vp_nar .boolean 1)))), (h6, .inl (cI, 3840, .inl (fun _ => 0))), (h7, .inl (cI, 3840, .inl (fun _ => 0))), (h8, .inl (cI, 7, .inl (fun _ => 0)))] sz)) (va_Qi (fun (r : Int32) (_ : Unit) => r = (if (-1) ≤ p1 then (if p1 ≤ 20 then (if 0 = p1 then 1 else 0) else (-6)) else (-4))) (fun _ _ => True) (va_A [(h0, .inr (9, [.ref h9, .ref h10, .ref h11, .int 0, .ref h12, .ref h2, .ref h4, .ref h1, .ref h13, .ref h14, .ref h15, .ref h8])), (h1, .inr (1, [.ref h2, .ref h4, .ref h7, .ref h16, .ref h3, .ref h6, .ref h17, .int 0, .int 0])), (h2, .inr (5, [.int 0, .int 1, .int 1, .int 1, .int 0, .ref h18, .ref h19, .ref h20, .ref h21, .ref h22, .ref h23])), (h3, .inl (cI, 3840, .inl (fun _ => 0))), (h4, .inr (3, [.ref h9, .ref h2, .ref h24, .ref h5, .ref h25, .int 0])), (h5, .inl (cZ, 120, .inl (upd (fun _ => 0) (Int32.toNatClampNeg 0) (vp_nar .boolean 1)))), (h6, .inl (cI, 3840, .inl (fun _ => 0))), (h7, .inl (cI, 3840, .inl (fun _ => 0))), (h8, .inl (cI, 7, .inl (fun _ => 0)))] sz)) 0 0 (va_A [(h0, .inr (9, [.ref h9, .ref h10, .ref h11, .int 0, .ref h12, .ref h2, .ref h4, .ref h1, .ref h13, .ref h14, .ref h15, .ref h8])), (h1, .inr (1, [.ref h2, .ref h4, .ref h7, .ref h16, .ref h3, .ref h6, .ref h17, .int 0, .int 0])), (h2, .inr (5, [.int 0, .int 1, .int 1, .int 1, .int 0, .ref h18, .ref h19, .ref h20, .ref h21, .ref h22, .ref h23])), (h3, .inl (cI, 3840, .inl (fun _ => 0))), (h4, .inr (3, [.ref h9, .ref h2, .ref h24, .ref h5, .ref h25, .int 0])), (h5, .inl (cZ, 120, .inl (upd (fun _ => 0) (Int32.toNatClampNeg 0) (vp_nar .boolean 1)))), (h6, .inl (cI, 3840, .inl (fun _ => 0))), (h7, .inl (cI, 3840, .inl (fun _ => 0))), (h8, .inl (cI, 7, .inl (fun _ => 0)))] sz) := by
  refine Met.ofW (cc := cX9_far) (maxL := 2) (ret := (some .int)) (by decide) rfl ?_
  intro p e s m args below meth c s₁ B hml hv
  obtain ⟨rfl, hsz, hP, hK, hD0⟩ := hv
  have hx := B.exec
  have hb := B.bytes
  have hr := B.returns
  have hts := atoms_spec (ws := sw_k_X9_far) B.pre
  have hown : s.vm.findClass RX9 = some m.cls := findClass_of_methodNamed B.named
  have hlocks := B.notSynchronized
  subst hsz
  have hD := hD0.self (sz := s.heap.size)
  generalize hAe : va_A [(h0, .inr (9, [.ref h9, .ref h10, .ref h11, .int 0, .ref h12, .ref h2, .ref h4, .ref h1, .ref h13, .ref h14, .ref h15, .ref h8])), (h1, .inr (1, [.ref h2, .ref h4, .ref h7, .ref h16, .ref h3, .ref h6, .ref h17, .int 0, .int 0])), (h2, .inr (5, [.int 0, .int 1, .int 1, .int 1, .int 0, .ref h18, .ref h19, .ref h20, .ref h21, .ref h22, .ref h23])), (h3, .inl (cI, 3840, .inl (fun _ => 0))), (h4, .inr (3, [.ref h9, .ref h2, .ref h24, .ref h5, .ref h25, .int 0])), (h5, .inl (cZ, 120, .inl (upd (fun _ => 0) (Int32.toNatClampNeg 0) (vp_nar .boolean 1)))), (h6, .inl (cI, 3840, .inl (fun _ => 0))), (h7, .inl (cI, 3840, .inl (fun _ => 0))), (h8, .inl (cI, 7, .inl (fun _ => 0)))] s.heap.size = A at hD ⊢
  have hA : ∀ q : Nat, s.heap.size ≤ q → A q := fun q h => by rw [← hAe]; exact Or.inr h
  have hS : va_S A s.heap s.heap [] := va_S.rf
  have hl := lv_entry ([.ref h0, .int p1]) (n := 2) (Nat.le_of_ble_eq_true rfl)
  rw [lg_entry_eq]
  generalize (lg_sl ([.ref h0, .int p1]) ++ List.replicate (2 - (lg_sl ([.ref h0, .int p1])).length) Slot.unset).toArray = ls at hl ⊢
  have hl : lv_has ls 2 [(0, .ref h0), (1, .int p1)] := hl
  refine lv_iload_n hx hb dX9_far_0 rfl (lv_at hl 1 rfl) ?_
  refine lv_iconst (v := (-1)) hx hb dX9_far_1 (by decide) ?_
  refine lv_icmp_ge (tgt := 12) hx hb dX9_far_2 (by decide) (fun c1 => ?_) (fun c1 => ?_)
  · refine lv_iload_n hx hb dX9_far_12 rfl (lv_at hl 1 rfl) ?_
    refine lv_bipush (v := 20) hx hb dX9_far_13 (by decide) ?_
    refine lv_icmp_le (tgt := 25) hx hb dX9_far_15 (by decide) (fun c2 => ?_) (fun c2 => ?_)
    · refine lv_aload_n hx hb dX9_far_25 rfl (lv_at hl 0 rfl) ?_
      refine va_get (D := D) (ci := 9) (v := .ref h1) (C := RX9) (T := TX9) (N := 12) hx hb hts iw_k_X9_far_X9 hown hK hP 0 rfl rfl 7 (by decide) (hts (.fieldLink RX9 59 "TopTurned" "chart" "LTopTurned$Chart;") (by decide +kernel)) (fun _ h9 => h9) rfl dX9_far_26 ?_
      refine lv_iload_n hx hb dX9_far_29 rfl (lv_at hl 1 rfl) ?_
      have hPc := hP.sub (ws' := [(h1, .inr (1, [.ref h2, .ref h4, .ref h7, .ref h16, .ref h3, .ref h6, .ref h17, .int 0, .int 0])), (h2, .inr (5, [.int 0, .int 1, .int 1, .int 1, .int 0, .ref h18, .ref h19, .ref h20, .ref h21, .ref h22, .ref h23])), (h3, .inl (cI, 3840, .inl (fun _ => 0))), (h4, .inr (3, [.ref h9, .ref h2, .ref h24, .ref h5, .ref h25, .int 0])), (h5, .inl (cZ, 120, .inl (upd (fun _ => 0) (Int32.toNatClampNeg 0) (vp_nar .boolean 1)))), (h6, .inl (cI, 3840, .inl (fun _ => 0))), (h7, .inl (cI, 3840, .inl (fun _ => 0)))]) [1, 2, 3, 4, 5, 6, 7] rfl
      have hDc := hD.sub (ws' := [(h1, .inr (1, [.ref h2, .ref h4, .ref h7, .ref h16, .ref h3, .ref h6, .ref h17, .int 0, .int 0])), (h2, .inr (5, [.int 0, .int 1, .int 1, .int 1, .int 0, .ref h18, .ref h19, .ref h20, .ref h21, .ref h22, .ref h23])), (h3, .inl (cI, 3840, .inl (fun _ => 0))), (h4, .inr (3, [.ref h9, .ref h2, .ref h24, .ref h5, .ref h25, .int 0])), (h5, .inl (cZ, 120, .inl (upd (fun _ => 0) (Int32.toNatClampNeg 0) (vp_nar .boolean 1)))), (h6, .inl (cI, 3840, .inl (fun _ => 0))), (h7, .inl (cI, 3840, .inl (fun _ => 0)))]) [1, 2, 3, 4, 5, 6, 7] (by decide) rfl
      have hFc := va_free (wc := [(h1, .inr (1, [.ref h2, .ref h4, .ref h7, .ref h16, .ref h3, .ref h6, .ref h17, .int 0, .int 0])), (h2, .inr (5, [.int 0, .int 1, .int 1, .int 1, .int 0, .ref h18, .ref h19, .ref h20, .ref h21, .ref h22, .ref h23])), (h3, .inl (cI, 3840, .inl (fun _ => 0))), (h4, .inr (3, [.ref h9, .ref h2, .ref h24, .ref h5, .ref h25, .int 0])), (h5, .inl (cZ, 120, .inl (upd (fun _ => 0) (Int32.toNatClampNeg 0) (vp_nar .boolean 1)))), (h6, .inl (cI, 3840, .inl (fun _ => 0))), (h7, .inl (cI, 3840, .inl (fun _ => 0)))]) hD hS hA [1, 2, 3, 4, 5, 6, 7] rfl
      refine va_calli (va_runV (As := [.int p1]) (rest := []) ⟨hx, hb, hml, hown, hts⟩ (k_X1_howManyAt l D cC cI cZ h1 h2 h3 h4 h5 h6 h7 h16 h17 h18 h19 h20 h21 h22 h23 h9 h24 h25 s.heap.size p1) (cwV (C := RX1) 1 hts (goodIn_app (goodIn_of _ (by decide +kernel)) gc_k_X9_far_k_X1_howManyAt) rfl rfl rfl (by decide +kernel) ⟨(Nat.le_of_ble_eq_true rfl), (Nat.le_of_ble_eq_true rfl)⟩) (kPreV hK hPc hDc (va_recv hK hPc (ci := 1) (q0 := 0) rfl rfl)) rfl rfl hl.1 rfl (lv_room (Nat.le_of_ble_eq_true rfl)) dX9_far_30 ⟨(Nat.le_of_ble_eq_true rfl), (Nat.le_of_ble_eq_true rfl)⟩) hS (fun q _ h => hFc q h) hFc (fun r3 u t H1 locs ht hvm hw hB hz1 hk1 hS => ?_)
      obtain ⟨hP1, hD1⟩ := hB
      rw [ht] at hP1
      obtain ⟨hP, hD⟩ := va_join (wr := [(h0, .inr (9, [.ref h9, .ref h10, .ref h11, .int 0, .ref h12, .ref h2, .ref h4, .ref h1, .ref h13, .ref h14, .ref h15, .ref h8])), (h8, .inl (cI, 7, .inl (fun _ => 0)))]) (w1 := [(h1, .inr (1, [.ref h2, .ref h4, .ref h7, .ref h16, .ref h3, .ref h6, .ref h17, .int 1, .int 0])), (h2, .inr (5, [.int 0, .int 1, .int 1, .int 1, .int 0, .ref h18, .ref h19, .ref h20, .ref h21, .ref h22, .ref h23])), (h3, .inl (cI, 3840, .inl (upd (upd (fun _ => 0) (Int32.toNatClampNeg 0) (-1)) (Int32.toNatClampNeg 0) 0))), (h4, .inr (3, [.ref h9, .ref h2, .ref h24, .ref h5, .ref h25, .int 0])), (h5, .inl (cZ, 120, .inl (upd (fun _ => 0) (Int32.toNatClampNeg 0) (vp_nar .boolean 1)))), (h6, .inl (cI, 3840, .inl (upd (fun _ => 0) (Int32.toNatClampNeg 0) 1))), (h7, .inl (cI, 3840, .inl (fun _ => 0)))]) hP hD [1, 2, 3, 4, 5, 6, 7] [0, 8] rfl rfl (by decide) (by decide) hk1 hFc hP1 hD1
      generalize H1 = H at hP hS ⊢
      have hP : va_P D vwCl [(h0, .inr (9, [.ref h9, .ref h10, .ref h11, .int 0, .ref h12, .ref h2, .ref h4, .ref h1, .ref h13, .ref h14, .ref h15, .ref h8])), (h8, .inl (cI, 7, .inl (fun _ => 0))), (h1, .inr (1, [.ref h2, .ref h4, .ref h7, .ref h16, .ref h3, .ref h6, .ref h17, .int 1, .int 0])), (h2, .inr (5, [.int 0, .int 1, .int 1, .int 1, .int 0, .ref h18, .ref h19, .ref h20, .ref h21, .ref h22, .ref h23])), (h3, .inl (cI, 3840, .inl (upd (upd (fun _ => 0) (Int32.toNatClampNeg 0) (-1)) (Int32.toNatClampNeg 0) 0))), (h4, .inr (3, [.ref h9, .ref h2, .ref h24, .ref h5, .ref h25, .int 0])), (h5, .inl (cZ, 120, .inl (upd (fun _ => 0) (Int32.toNatClampNeg 0) (vp_nar .boolean 1)))), (h6, .inl (cI, 3840, .inl (upd (fun _ => 0) (Int32.toNatClampNeg 0) 1))), (h7, .inl (cI, 3840, .inl (fun _ => 0)))] H := hP
      have hD : va_D A [(h0, .inr (9, [.ref h9, .ref h10, .ref h11, .int 0, .ref h12, .ref h2, .ref h4, .ref h1, .ref h13, .ref h14, .ref h15, .ref h8])), (h8, .inl (cI, 7, .inl (fun _ => 0))), (h1, .inr (1, [.ref h2, .ref h4, .ref h7, .ref h16, .ref h3, .ref h6, .ref h17, .int 1, .int 0])), (h2, .inr (5, [.int 0, .int 1, .int 1, .int 1, .int 0, .ref h18, .ref h19, .ref h20, .ref h21, .ref h22, .ref h23])), (h3, .inl (cI, 3840, .inl (upd (upd (fun _ => 0) (Int32.toNatClampNeg 0) (-1)) (Int32.toNatClampNeg 0) 0))), (h4, .inr (3, [.ref h9, .ref h2, .ref h24, .ref h5, .ref h25, .int 0])), (h5, .inl (cZ, 120, .inl (upd (fun _ => 0) (Int32.toNatClampNeg 0) (vp_nar .boolean 1)))), (h6, .inl (cI, 3840, .inl (upd (fun _ => 0) (Int32.toNatClampNeg 0) 1))), (h7, .inl (cI, 3840, .inl (fun _ => 0)))] := hD
      have hw : r3 = (if 0 = p1 then 1 else 0) := hw
      subst hw
      refine W.widen (k := 0) (n := 0) (Nat.le_of_ble_eq_true rfl) (Nat.le_of_ble_eq_true rfl) ?_
      exact W.iret (v := (if 0 = p1 then 1 else 0)) hx hb hr (fun t ht hW => ⟨⟨(if 0 = p1 then 1 else 0), (), rfl, (by rw [if_pos c1, if_pos c2]), trivial⟩, hS.F ht⟩) hS.2.2 dX9_far_33
    · refine lv_aload_n hx hb dX9_far_18 rfl (lv_at hl 0 rfl) ?_
      refine lv_bipush (v := (-6)) hx hb dX9_far_19 (by decide) ?_
      have hPc := hP.sub (ws' := [(h0, .inr (9, [.ref h9, .ref h10, .ref h11, .int 0, .ref h12, .ref h2, .ref h4, .ref h1, .ref h13, .ref h14, .ref h15, .ref h8])), (h8, .inl (cI, 7, .inl (fun _ => 0)))]) [0, 8] rfl
      have hDc := hD.sub (ws' := [(h0, .inr (9, [.ref h9, .ref h10, .ref h11, .int 0, .ref h12, .ref h2, .ref h4, .ref h1, .ref h13, .ref h14, .ref h15, .ref h8])), (h8, .inl (cI, 7, .inl (fun _ => 0)))]) [0, 8] (by decide) rfl
      have hFc := va_free (wc := [(h0, .inr (9, [.ref h9, .ref h10, .ref h11, .int 0, .ref h12, .ref h2, .ref h4, .ref h1, .ref h13, .ref h14, .ref h15, .ref h8])), (h8, .inl (cI, 7, .inl (fun _ => 0)))]) hD hS hA [0, 8] rfl
      refine va_calli (va_runV (As := [.int (-6)]) (rest := []) ⟨hx, hb, hml, hown, hts⟩ (k_X9_refuse l D cC cI cZ h0 h8 h9 h10 h11 h12 h2 h4 h1 h13 h14 h15 s.heap.size ) (cwV (C := RX9) 1 hts (goodIn_app (goodIn_of _ (by decide +kernel)) gc_k_X9_far_k_X9_refuse) rfl rfl rfl (by decide +kernel) ⟨(Nat.le_of_ble_eq_true rfl), (Nat.le_of_ble_eq_true rfl)⟩) (kPreV hK hPc hDc (va_recv hK hPc (ci := 9) (q0 := 0) rfl rfl)) rfl rfl hl.1 rfl (lv_room (Nat.le_of_ble_eq_true rfl)) dX9_far_21 ⟨(Nat.le_of_ble_eq_true rfl), (Nat.le_of_ble_eq_true rfl)⟩) hS (fun q _ h => hFc q h) hFc (fun r4 u t H1 locs ht hvm hw hB hz1 hk1 hS => ?_)
      obtain ⟨hP1, hD1⟩ := hB
      rw [ht] at hP1
      obtain ⟨hP, hD⟩ := va_join (wr := [(h1, .inr (1, [.ref h2, .ref h4, .ref h7, .ref h16, .ref h3, .ref h6, .ref h17, .int 0, .int 0])), (h2, .inr (5, [.int 0, .int 1, .int 1, .int 1, .int 0, .ref h18, .ref h19, .ref h20, .ref h21, .ref h22, .ref h23])), (h3, .inl (cI, 3840, .inl (fun _ => 0))), (h4, .inr (3, [.ref h9, .ref h2, .ref h24, .ref h5, .ref h25, .int 0])), (h5, .inl (cZ, 120, .inl (upd (fun _ => 0) (Int32.toNatClampNeg 0) (vp_nar .boolean 1)))), (h6, .inl (cI, 3840, .inl (fun _ => 0))), (h7, .inl (cI, 3840, .inl (fun _ => 0)))]) (w1 := [(h0, .inr (9, [.ref h9, .ref h10, .ref h11, .int 0, .ref h12, .ref h2, .ref h4, .ref h1, .ref h13, .ref h14, .ref h15, .ref h8])), (h8, .inl (cI, 7, .inl (upd (fun _ => 0) (Int32.toNatClampNeg 6) 1)))]) hP hD [0, 8] [1, 2, 3, 4, 5, 6, 7] rfl rfl (by decide) (by decide) hk1 hFc hP1 hD1
      generalize H1 = H at hP hS ⊢
      have hP : va_P D vwCl [(h1, .inr (1, [.ref h2, .ref h4, .ref h7, .ref h16, .ref h3, .ref h6, .ref h17, .int 0, .int 0])), (h2, .inr (5, [.int 0, .int 1, .int 1, .int 1, .int 0, .ref h18, .ref h19, .ref h20, .ref h21, .ref h22, .ref h23])), (h3, .inl (cI, 3840, .inl (fun _ => 0))), (h4, .inr (3, [.ref h9, .ref h2, .ref h24, .ref h5, .ref h25, .int 0])), (h5, .inl (cZ, 120, .inl (upd (fun _ => 0) (Int32.toNatClampNeg 0) (vp_nar .boolean 1)))), (h6, .inl (cI, 3840, .inl (fun _ => 0))), (h7, .inl (cI, 3840, .inl (fun _ => 0))), (h0, .inr (9, [.ref h9, .ref h10, .ref h11, .int 0, .ref h12, .ref h2, .ref h4, .ref h1, .ref h13, .ref h14, .ref h15, .ref h8])), (h8, .inl (cI, 7, .inl (upd (fun _ => 0) (Int32.toNatClampNeg 6) 1)))] H := hP
      have hD : va_D A [(h1, .inr (1, [.ref h2, .ref h4, .ref h7, .ref h16, .ref h3, .ref h6, .ref h17, .int 0, .int 0])), (h2, .inr (5, [.int 0, .int 1, .int 1, .int 1, .int 0, .ref h18, .ref h19, .ref h20, .ref h21, .ref h22, .ref h23])), (h3, .inl (cI, 3840, .inl (fun _ => 0))), (h4, .inr (3, [.ref h9, .ref h2, .ref h24, .ref h5, .ref h25, .int 0])), (h5, .inl (cZ, 120, .inl (upd (fun _ => 0) (Int32.toNatClampNeg 0) (vp_nar .boolean 1)))), (h6, .inl (cI, 3840, .inl (fun _ => 0))), (h7, .inl (cI, 3840, .inl (fun _ => 0))), (h0, .inr (9, [.ref h9, .ref h10, .ref h11, .int 0, .ref h12, .ref h2, .ref h4, .ref h1, .ref h13, .ref h14, .ref h15, .ref h8])), (h8, .inl (cI, 7, .inl (upd (fun _ => 0) (Int32.toNatClampNeg 6) 1)))] := hD
      have hw : r4 = (-6) := hw
      subst hw
      refine W.widen (k := 0) (n := 0) (Nat.le_of_ble_eq_true rfl) (Nat.le_of_ble_eq_true rfl) ?_
      exact W.iret (v := (-6)) hx hb hr (fun t ht hW => ⟨⟨(-6), (), rfl, (by rw [if_pos c1, if_neg c2]), trivial⟩, hS.F ht⟩) hS.2.2 dX9_far_24
  · refine lv_aload_n hx hb dX9_far_5 rfl (lv_at hl 0 rfl) ?_
    refine lv_bipush (v := (-4)) hx hb dX9_far_6 (by decide) ?_
    have hPc := hP.sub (ws' := [(h0, .inr (9, [.ref h9, .ref h10, .ref h11, .int 0, .ref h12, .ref h2, .ref h4, .ref h1, .ref h13, .ref h14, .ref h15, .ref h8])), (h8, .inl (cI, 7, .inl (fun _ => 0)))]) [0, 8] rfl
    have hDc := hD.sub (ws' := [(h0, .inr (9, [.ref h9, .ref h10, .ref h11, .int 0, .ref h12, .ref h2, .ref h4, .ref h1, .ref h13, .ref h14, .ref h15, .ref h8])), (h8, .inl (cI, 7, .inl (fun _ => 0)))]) [0, 8] (by decide) rfl
    have hFc := va_free (wc := [(h0, .inr (9, [.ref h9, .ref h10, .ref h11, .int 0, .ref h12, .ref h2, .ref h4, .ref h1, .ref h13, .ref h14, .ref h15, .ref h8])), (h8, .inl (cI, 7, .inl (fun _ => 0)))]) hD hS hA [0, 8] rfl
    refine va_calli (va_runV (As := [.int (-4)]) (rest := []) ⟨hx, hb, hml, hown, hts⟩ (k_X9_refuse_1 l D cC cI cZ h0 h8 h9 h10 h11 h12 h2 h4 h1 h13 h14 h15 s.heap.size ) (cwV (C := RX9) 1 hts (goodIn_app (goodIn_of _ (by decide +kernel)) gc_k_X9_far_k_X9_refuse_1) rfl rfl rfl (by decide +kernel) ⟨(Nat.le_of_ble_eq_true rfl), (Nat.le_of_ble_eq_true rfl)⟩) (kPreV hK hPc hDc (va_recv hK hPc (ci := 9) (q0 := 0) rfl rfl)) rfl rfl hl.1 rfl (lv_room (Nat.le_of_ble_eq_true rfl)) dX9_far_8 ⟨(Nat.le_of_ble_eq_true rfl), (Nat.le_of_ble_eq_true rfl)⟩) hS (fun q _ h => hFc q h) hFc (fun r5 u t H1 locs ht hvm hw hB hz1 hk1 hS => ?_)
    obtain ⟨hP1, hD1⟩ := hB
    rw [ht] at hP1
    obtain ⟨hP, hD⟩ := va_join (wr := [(h1, .inr (1, [.ref h2, .ref h4, .ref h7, .ref h16, .ref h3, .ref h6, .ref h17, .int 0, .int 0])), (h2, .inr (5, [.int 0, .int 1, .int 1, .int 1, .int 0, .ref h18, .ref h19, .ref h20, .ref h21, .ref h22, .ref h23])), (h3, .inl (cI, 3840, .inl (fun _ => 0))), (h4, .inr (3, [.ref h9, .ref h2, .ref h24, .ref h5, .ref h25, .int 0])), (h5, .inl (cZ, 120, .inl (upd (fun _ => 0) (Int32.toNatClampNeg 0) (vp_nar .boolean 1)))), (h6, .inl (cI, 3840, .inl (fun _ => 0))), (h7, .inl (cI, 3840, .inl (fun _ => 0)))]) (w1 := [(h0, .inr (9, [.ref h9, .ref h10, .ref h11, .int 0, .ref h12, .ref h2, .ref h4, .ref h1, .ref h13, .ref h14, .ref h15, .ref h8])), (h8, .inl (cI, 7, .inl (upd (fun _ => 0) (Int32.toNatClampNeg 4) 1)))]) hP hD [0, 8] [1, 2, 3, 4, 5, 6, 7] rfl rfl (by decide) (by decide) hk1 hFc hP1 hD1
    generalize H1 = H at hP hS ⊢
    have hP : va_P D vwCl [(h1, .inr (1, [.ref h2, .ref h4, .ref h7, .ref h16, .ref h3, .ref h6, .ref h17, .int 0, .int 0])), (h2, .inr (5, [.int 0, .int 1, .int 1, .int 1, .int 0, .ref h18, .ref h19, .ref h20, .ref h21, .ref h22, .ref h23])), (h3, .inl (cI, 3840, .inl (fun _ => 0))), (h4, .inr (3, [.ref h9, .ref h2, .ref h24, .ref h5, .ref h25, .int 0])), (h5, .inl (cZ, 120, .inl (upd (fun _ => 0) (Int32.toNatClampNeg 0) (vp_nar .boolean 1)))), (h6, .inl (cI, 3840, .inl (fun _ => 0))), (h7, .inl (cI, 3840, .inl (fun _ => 0))), (h0, .inr (9, [.ref h9, .ref h10, .ref h11, .int 0, .ref h12, .ref h2, .ref h4, .ref h1, .ref h13, .ref h14, .ref h15, .ref h8])), (h8, .inl (cI, 7, .inl (upd (fun _ => 0) (Int32.toNatClampNeg 4) 1)))] H := hP
    have hD : va_D A [(h1, .inr (1, [.ref h2, .ref h4, .ref h7, .ref h16, .ref h3, .ref h6, .ref h17, .int 0, .int 0])), (h2, .inr (5, [.int 0, .int 1, .int 1, .int 1, .int 0, .ref h18, .ref h19, .ref h20, .ref h21, .ref h22, .ref h23])), (h3, .inl (cI, 3840, .inl (fun _ => 0))), (h4, .inr (3, [.ref h9, .ref h2, .ref h24, .ref h5, .ref h25, .int 0])), (h5, .inl (cZ, 120, .inl (upd (fun _ => 0) (Int32.toNatClampNeg 0) (vp_nar .boolean 1)))), (h6, .inl (cI, 3840, .inl (fun _ => 0))), (h7, .inl (cI, 3840, .inl (fun _ => 0))), (h0, .inr (9, [.ref h9, .ref h10, .ref h11, .int 0, .ref h12, .ref h2, .ref h4, .ref h1, .ref h13, .ref h14, .ref h15, .ref h8])), (h8, .inl (cI, 7, .inl (upd (fun _ => 0) (Int32.toNatClampNeg 4) 1)))] := hD
    have hw : r5 = (-4) := hw
    subst hw
    refine W.widen (k := 0) (n := 0) (Nat.le_of_ble_eq_true rfl) (Nat.le_of_ble_eq_true rfl) ?_
    exact W.iret (v := (-4)) hx hb hr (fun t ht hW => ⟨⟨(-4), (), rfl, (by rw [if_neg c1]), trivial⟩, hS.F ht⟩) hS.2.2 dX9_far_11
def sw_k_X9_refuse_4 : List Cond := .code yX9_refuse cX9_refuse 2 (some .int) :: (([.fieldLink RX9 90 "TopTurned" "refusals" "[I"] : List Cond) ++ (wsX90 ++ (([] : List Cond))))
theorem gd_k_X9_refuse_4 : ∀ w ∈ sw_k_X9_refuse_4, (w.onTables && w.keeps) = true ∨ ∃ ty, w = .arrayClass ty := List.forall_mem_cons.mpr ⟨good_of_word rfl, List.forall_mem_append.mpr ⟨fun w h => good_of_word (List.all_eq_true.mp (by decide +kernel : (([.fieldLink RX9 90 "TopTurned" "refusals" "[I"] : List Cond)).all goodWord = true) w h), List.forall_mem_append.mpr ⟨gw_X9, fun _ h => absurd h List.not_mem_nil⟩⟩⟩
theorem iw_k_X9_refuse_4_X9 : ∀ w ∈ wsX90, w ∈ sw_k_X9_refuse_4 := fun _ h => List.mem_cons_of_mem _ (List.mem_append_right _ (List.mem_append_left _ h))
set_option maxHeartbeats 4000000 in
set_option maxRecDepth 100000 in
theorem k_X9_refuse_4 (l : Launch) (D : va_G) (cC cI cZ : ClassId) (h0 h1 h2 h3 h4 h5 h6 h7 h8 h9 h10 h11 : Nat) (sz : Nat) : Met l yX9_refuse sw_k_X9_refuse_4 ({ frames := 2, cells := 0, slots := 0, locals := 100 }) (va_Pc [.ref h0, .int (-3)] (kPre D cC cI cZ [(h0, .inr (9, [.ref h2, .ref h3, .ref h4, .int 0, .ref h5, .ref h6, .ref h7, .ref h8, .ref h9, .ref h10, .ref h11, .ref h1])), (h1, .inl (cI, 7, .inl (fun _ => 0)))] sz)) (va_Qi (fun (r : Int32) (_ : Unit) => r = (-3)) (fun _ t => va_P D vwCl [(h0, .inr (9, [.ref h2, .ref h3, .ref h4, .int 0, .ref h5, .ref h6, .ref h7, .ref h8, .ref h9, .ref h10, .ref h11, .ref h1])), (h1, .inl (cI, 7, .inl (upd (fun _ => 0) (Int32.toNatClampNeg 3) 1)))] t.heap ∧ va_D (va_A [(h0, .inr (9, [.ref h2, .ref h3, .ref h4, .int 0, .ref h5, .ref h6, .ref h7, .ref h8, .ref h9, .ref h10, .ref h11, .ref h1])), (h1, .inl (cI, 7, .inl (fun _ => 0)))] sz) [(h0, .inr (9, [.ref h2, .ref h3, .ref h4, .int 0, .ref h5, .ref h6, .ref h7, .ref h8, .ref h9, .ref h10, .ref h11, .ref h1])), (h1, .inl (cI, 7, .inl (upd (fun _ => 0) (Int32.toNatClampNeg 3) 1)))]) (va_A [(h0, .inr (9, [.ref h2, .ref h3, .ref h4, .int 0, .ref h5, .ref h6, .ref h7, .ref h8, .ref h9, .ref h10, .ref h11, .ref h1])), (h1, .inl (cI, 7, .inl (fun _ => 0)))] sz)) 0 0 (va_A [(h0, .inr (9, [.ref h2, .ref h3, .ref h4, .int 0, .ref h5, .ref h6, .ref h7, .ref h8, .ref h9, .ref h10, .ref h11, .ref h1])), (h1, .inl (cI, 7, .inl (fun _ => 0)))] sz) := by
  refine Met.ofW (cc := cX9_refuse) (maxL := 2) (ret := (some .int)) (by decide) rfl ?_
  intro p e s m args below meth c s₁ B hml hv
  obtain ⟨rfl, hsz, hP, hK, hD0⟩ := hv
  have hx := B.exec
  have hb := B.bytes
  have hr := B.returns
  have hts := atoms_spec (ws := sw_k_X9_refuse_4) B.pre
  have hown : s.vm.findClass RX9 = some m.cls := findClass_of_methodNamed B.named
  have hlocks := B.notSynchronized
  subst hsz
  have hD := hD0.self (sz := s.heap.size)
  generalize hAe : va_A [(h0, .inr (9, [.ref h2, .ref h3, .ref h4, .int 0, .ref h5, .ref h6, .ref h7, .ref h8, .ref h9, .ref h10, .ref h11, .ref h1])), (h1, .inl (cI, 7, .inl (fun _ => 0)))] s.heap.size = A at hD ⊢
  have hA : ∀ q : Nat, s.heap.size ≤ q → A q := fun q h => by rw [← hAe]; exact Or.inr h
  have hS : va_S A s.heap s.heap [] := va_S.rf
  have hl := lv_entry ([.ref h0, .int (-3)]) (n := 2) (Nat.le_of_ble_eq_true rfl)
  rw [lg_entry_eq]
  generalize (lg_sl ([.ref h0, .int (-3)]) ++ List.replicate (2 - (lg_sl ([.ref h0, .int (-3)])).length) Slot.unset).toArray = ls at hl ⊢
  have hl : lv_has ls 2 [(0, .ref h0), (1, .int (-3))] := hl
  refine lv_aload_n hx hb dX9_refuse_0 rfl (lv_at hl 0 rfl) ?_
  refine va_get (D := D) (ci := 9) (v := .ref h1) (C := RX9) (T := TX9) (N := 12) hx hb hts iw_k_X9_refuse_4_X9 hown hK hP 0 rfl rfl 11 (by decide) (hts (.fieldLink RX9 90 "TopTurned" "refusals" "[I") (by decide +kernel)) (fun _ h9 => h9) rfl dX9_refuse_1 ?_
  refine lv_iload_n hx hb dX9_refuse_4 rfl (lv_at hl 1 rfl) ?_
  refine lv_ineg hx hb dX9_refuse_5 ?_
  refine kt_eq (y := 3) (by decide +kernel) ?_
  refine lv_dup2_11 hx hb dX9_refuse_6 rfl rfl ?_
  refine va_iald (i := 3) hx hb hK hP 1 1 rfl rfl (vp_in_iff.mpr (by decide)) dX9_refuse_7 ?_
  refine kt_eq (y := 0) (by decide +kernel) ?_
  refine lv_iconst (v := 1) hx hb dX9_refuse_8 (by decide) ?_
  refine lv_iadd hx hb dX9_refuse_9 ?_
  refine kt_eq (y := 1) (by decide +kernel) ?_
  refine va_iast (i := 3) (x := 1) hx hb hK hP hD hS 1 1 rfl rfl (vp_in_iff.mpr (by decide)) dX9_refuse_10 (fun H locs hP hD hS => ?_)
  have hP : va_P D vwCl [(h0, .inr (9, [.ref h2, .ref h3, .ref h4, .int 0, .ref h5, .ref h6, .ref h7, .ref h8, .ref h9, .ref h10, .ref h11, .ref h1])), (h1, .inl (cI, 7, .inl (upd (fun _ => 0) (Int32.toNatClampNeg 3) 1)))] H := hP
  have hD : va_D A [(h0, .inr (9, [.ref h2, .ref h3, .ref h4, .int 0, .ref h5, .ref h6, .ref h7, .ref h8, .ref h9, .ref h10, .ref h11, .ref h1])), (h1, .inl (cI, 7, .inl (upd (fun _ => 0) (Int32.toNatClampNeg 3) 1)))] := hD
  refine lv_iload_n hx hb dX9_refuse_11 rfl (lv_at hl 1 rfl) ?_
  refine W.widen (k := 0) (n := 0) (Nat.le_of_ble_eq_true rfl) (Nat.le_of_ble_eq_true rfl) ?_
  have hP9 := hP.sub (ws' := [(h0, .inr (9, [.ref h2, .ref h3, .ref h4, .int 0, .ref h5, .ref h6, .ref h7, .ref h8, .ref h9, .ref h10, .ref h11, .ref h1])), (h1, .inl (cI, 7, .inl (upd (fun _ => 0) (Int32.toNatClampNeg 3) 1)))]) [0, 1] rfl
  have hD9 := hD.sub (ws' := [(h0, .inr (9, [.ref h2, .ref h3, .ref h4, .int 0, .ref h5, .ref h6, .ref h7, .ref h8, .ref h9, .ref h10, .ref h11, .ref h1])), (h1, .inl (cI, 7, .inl (upd (fun _ => 0) (Int32.toNatClampNeg 3) 1)))]) [0, 1] (by decide) rfl
  exact W.iret (v := (-3)) hx hb hr (fun t ht hW => ⟨⟨(-3), (), rfl, rfl, ⟨by rw [ht]; exact hP9, hD9⟩⟩, hS.F ht⟩) hS.2.2 dX9_refuse_12
def sw_k_X9_worst : List Cond := .code yX9_worst cX9_worst 3 (some .int) :: (([.methodLink RX9 94 yX9_refuse, .instanceMethod yX9_refuse, .selects RX9 yX9_refuse yX9_refuse, .initialized RX9, .fieldLink RX9 10 "TopTurned" "now" "LTopTurned$Told;", .fieldLink RX9 115 "TopTurned$Told" "plates" "I"] : List Cond) ++ (sw_k_X9_refuse_2 ++ (wsX90 ++ (wsX60 ++ (sw_k_X9_refuse_4 ++ (([] : List Cond)))))))
theorem gd_k_X9_worst : ∀ w ∈ sw_k_X9_worst, (w.onTables && w.keeps) = true ∨ ∃ ty, w = .arrayClass ty := List.forall_mem_cons.mpr ⟨good_of_word rfl, List.forall_mem_append.mpr ⟨fun w h => good_of_word (List.all_eq_true.mp (by decide +kernel : (([.methodLink RX9 94 yX9_refuse, .instanceMethod yX9_refuse, .selects RX9 yX9_refuse yX9_refuse, .initialized RX9, .fieldLink RX9 10 "TopTurned" "now" "LTopTurned$Told;", .fieldLink RX9 115 "TopTurned$Told" "plates" "I"] : List Cond)).all goodWord = true) w h), List.forall_mem_append.mpr ⟨gd_k_X9_refuse_2, List.forall_mem_append.mpr ⟨gw_X9, List.forall_mem_append.mpr ⟨gw_X6, List.forall_mem_append.mpr ⟨gd_k_X9_refuse_4, fun _ h => absurd h List.not_mem_nil⟩⟩⟩⟩⟩⟩
theorem gc_k_X9_worst_k_X9_refuse_2 : GoodIn sw_k_X9_worst sw_k_X9_refuse_2 := fun w h => ⟨List.mem_cons_of_mem _ (List.mem_append_right _ (List.mem_append_left _ h)), gd_k_X9_refuse_2 w h⟩
theorem iw_k_X9_worst_X9 : ∀ w ∈ wsX90, w ∈ sw_k_X9_worst := fun _ h => List.mem_cons_of_mem _ (List.mem_append_right _ (List.mem_append_right _ (List.mem_append_left _ h)))
theorem iw_k_X9_worst_X6 : ∀ w ∈ wsX60, w ∈ sw_k_X9_worst := fun _ h => List.mem_cons_of_mem _ (List.mem_append_right _ (List.mem_append_right _ (List.mem_append_right _ (List.mem_append_left _ h))))
theorem gc_k_X9_worst_k_X9_refuse_4 : GoodIn sw_k_X9_worst sw_k_X9_refuse_4 := fun w h => ⟨List.mem_cons_of_mem _ (List.mem_append_right _ (List.mem_append_right _ (List.mem_append_right _ (List.mem_append_right _ (List.mem_append_left _ h))))), gd_k_X9_refuse_4 w h⟩
set_option maxHeartbeats 4000000 in
set_option maxRecDepth 100000 in
theorem k_X9_worst (l : Launch) (D : va_G) (cC cI cZ : ClassId) (h0 h1 h2 h3 h4 h5 h6 h7 h8 h9 h10 h11 h12 h13 h14 h15 h16 h17 : Nat) (sz : Nat) (p1 : Int32) : Met l yX9_worst sw_k_X9_worst ({ frames := 4, cells := 0, slots := 0, locals := 200 }) (va_Pc [.ref h0, .int p1] (kPre D cC cI cZ [(h0, .inr (9, [.ref h2, .ref h3, .ref h4, .int 0, .ref h5, .ref h6, .ref h7, .ref h8, .ref h9, .ref h10, .ref h11, .ref h1])), (h1, .inl (cI, 7, .inl (fun _ => 0))), (h2, .inr (6, [.int 0, .ref h12, .ref h13, .int 0, .int 5, .int 9, .int 0, .int 1, .int 0, .int 0, .ref h14, .ref h15, .int 0, .ref h16, .int 0, .ref h17, .int 0]))] sz)) (va_Qi (fun (r : Int32) (_ : Unit) => r = (if p1 < (-1) then (-1) else (if p1 < 0 then (-3) else (-1)))) (fun _ _ => True) (va_A [(h0, .inr (9, [.ref h2, .ref h3, .ref h4, .int 0, .ref h5, .ref h6, .ref h7, .ref h8, .ref h9, .ref h10, .ref h11, .ref h1])), (h1, .inl (cI, 7, .inl (fun _ => 0))), (h2, .inr (6, [.int 0, .ref h12, .ref h13, .int 0, .int 5, .int 9, .int 0, .int 1, .int 0, .int 0, .ref h14, .ref h15, .int 0, .ref h16, .int 0, .ref h17, .int 0]))] sz)) 0 0 (va_A [(h0, .inr (9, [.ref h2, .ref h3, .ref h4, .int 0, .ref h5, .ref h6, .ref h7, .ref h8, .ref h9, .ref h10, .ref h11, .ref h1])), (h1, .inl (cI, 7, .inl (fun _ => 0))), (h2, .inr (6, [.int 0, .ref h12, .ref h13, .int 0, .int 5, .int 9, .int 0, .int 1, .int 0, .int 0, .ref h14, .ref h15, .int 0, .ref h16, .int 0, .ref h17, .int 0]))] sz) := by
  refine Met.ofW (cc := cX9_worst) (maxL := 3) (ret := (some .int)) (by decide) rfl ?_
  intro p e s m args below meth c s₁ B hml hv
  obtain ⟨rfl, hsz, hP, hK, hD0⟩ := hv
  have hx := B.exec
  have hb := B.bytes
  have hr := B.returns
  have hts := atoms_spec (ws := sw_k_X9_worst) B.pre
  have hown : s.vm.findClass RX9 = some m.cls := findClass_of_methodNamed B.named
  have hlocks := B.notSynchronized
  subst hsz
  have hD := hD0.self (sz := s.heap.size)
  generalize hAe : va_A [(h0, .inr (9, [.ref h2, .ref h3, .ref h4, .int 0, .ref h5, .ref h6, .ref h7, .ref h8, .ref h9, .ref h10, .ref h11, .ref h1])), (h1, .inl (cI, 7, .inl (fun _ => 0))), (h2, .inr (6, [.int 0, .ref h12, .ref h13, .int 0, .int 5, .int 9, .int 0, .int 1, .int 0, .int 0, .ref h14, .ref h15, .int 0, .ref h16, .int 0, .ref h17, .int 0]))] s.heap.size = A at hD ⊢
  have hA : ∀ q : Nat, s.heap.size ≤ q → A q := fun q h => by rw [← hAe]; exact Or.inr h
  have hS : va_S A s.heap s.heap [] := va_S.rf
  have hl := lv_entry ([.ref h0, .int p1]) (n := 3) (Nat.le_of_ble_eq_true rfl)
  rw [lg_entry_eq]
  generalize (lg_sl ([.ref h0, .int p1]) ++ List.replicate (3 - (lg_sl ([.ref h0, .int p1])).length) Slot.unset).toArray = ls at hl ⊢
  have hl : lv_has ls 3 [(0, .ref h0), (1, .int p1)] := hl
  refine lv_iload_n hx hb dX9_worst_0 rfl (lv_at hl 1 rfl) ?_
  refine lv_iconst (v := (-1)) hx hb dX9_worst_1 (by decide) ?_
  refine lv_icmp_lt (tgt := 16) hx hb dX9_worst_2 (by decide) (fun c1 => ?_) (fun c1 => ?_)
  · refine lv_aload_n hx hb dX9_worst_16 rfl (lv_at hl 0 rfl) ?_
    refine lv_iconst (v := (-1)) hx hb dX9_worst_17 (by decide) ?_
    have hPc := hP.sub (ws' := [(h0, .inr (9, [.ref h2, .ref h3, .ref h4, .int 0, .ref h5, .ref h6, .ref h7, .ref h8, .ref h9, .ref h10, .ref h11, .ref h1])), (h1, .inl (cI, 7, .inl (fun _ => 0)))]) [0, 1] rfl
    have hDc := hD.sub (ws' := [(h0, .inr (9, [.ref h2, .ref h3, .ref h4, .int 0, .ref h5, .ref h6, .ref h7, .ref h8, .ref h9, .ref h10, .ref h11, .ref h1])), (h1, .inl (cI, 7, .inl (fun _ => 0)))]) [0, 1] (by decide) rfl
    have hFc := va_free (wc := [(h0, .inr (9, [.ref h2, .ref h3, .ref h4, .int 0, .ref h5, .ref h6, .ref h7, .ref h8, .ref h9, .ref h10, .ref h11, .ref h1])), (h1, .inl (cI, 7, .inl (fun _ => 0)))]) hD hS hA [0, 1] rfl
    refine va_calli (va_runV (As := [.int (-1)]) (rest := []) ⟨hx, hb, hml, hown, hts⟩ (k_X9_refuse_2 l D cC cI cZ h0 h1 h2 h3 h4 h5 h6 h7 h8 h9 h10 h11 s.heap.size ) (cwV (C := RX9) 1 hts (goodIn_app (goodIn_of _ (by decide +kernel)) gc_k_X9_worst_k_X9_refuse_2) rfl rfl rfl (by decide +kernel) ⟨(Nat.le_of_ble_eq_true rfl), (Nat.le_of_ble_eq_true rfl)⟩) (kPreV hK hPc hDc (va_recv hK hPc (ci := 9) (q0 := 0) rfl rfl)) rfl rfl hl.1 rfl (lv_room (Nat.le_of_ble_eq_true rfl)) dX9_worst_18 ⟨(Nat.le_of_ble_eq_true rfl), (Nat.le_of_ble_eq_true rfl)⟩) hS (fun q _ h => hFc q h) hFc (fun r2 u t H1 locs ht hvm hw hB hz1 hk1 hS => ?_)
    obtain ⟨hP1, hD1⟩ := hB
    rw [ht] at hP1
    obtain ⟨hP, hD⟩ := va_join (wr := [(h2, .inr (6, [.int 0, .ref h12, .ref h13, .int 0, .int 5, .int 9, .int 0, .int 1, .int 0, .int 0, .ref h14, .ref h15, .int 0, .ref h16, .int 0, .ref h17, .int 0]))]) (w1 := [(h0, .inr (9, [.ref h2, .ref h3, .ref h4, .int 0, .ref h5, .ref h6, .ref h7, .ref h8, .ref h9, .ref h10, .ref h11, .ref h1])), (h1, .inl (cI, 7, .inl (upd (fun _ => 0) (Int32.toNatClampNeg 1) 1)))]) hP hD [0, 1] [2] rfl rfl (by decide) (by decide) hk1 hFc hP1 hD1
    generalize H1 = H at hP hS ⊢
    have hP : va_P D vwCl [(h2, .inr (6, [.int 0, .ref h12, .ref h13, .int 0, .int 5, .int 9, .int 0, .int 1, .int 0, .int 0, .ref h14, .ref h15, .int 0, .ref h16, .int 0, .ref h17, .int 0])), (h0, .inr (9, [.ref h2, .ref h3, .ref h4, .int 0, .ref h5, .ref h6, .ref h7, .ref h8, .ref h9, .ref h10, .ref h11, .ref h1])), (h1, .inl (cI, 7, .inl (upd (fun _ => 0) (Int32.toNatClampNeg 1) 1)))] H := hP
    have hD : va_D A [(h2, .inr (6, [.int 0, .ref h12, .ref h13, .int 0, .int 5, .int 9, .int 0, .int 1, .int 0, .int 0, .ref h14, .ref h15, .int 0, .ref h16, .int 0, .ref h17, .int 0])), (h0, .inr (9, [.ref h2, .ref h3, .ref h4, .int 0, .ref h5, .ref h6, .ref h7, .ref h8, .ref h9, .ref h10, .ref h11, .ref h1])), (h1, .inl (cI, 7, .inl (upd (fun _ => 0) (Int32.toNatClampNeg 1) 1)))] := hD
    have hw : r2 = (-1) := hw
    subst hw
    refine W.widen (k := 0) (n := 0) (Nat.le_of_ble_eq_true rfl) (Nat.le_of_ble_eq_true rfl) ?_
    exact W.iret (v := (-1)) hx hb hr (fun t ht hW => ⟨⟨(-1), (), rfl, (by rw [if_pos c1]), trivial⟩, hS.F ht⟩) hS.2.2 dX9_worst_21
  · refine lv_iload_n hx hb dX9_worst_5 rfl (lv_at hl 1 rfl) ?_
    refine lv_aload_n hx hb dX9_worst_6 rfl (lv_at hl 0 rfl) ?_
    refine va_get (D := D) (ci := 9) (v := .ref h2) (C := RX9) (T := TX9) (N := 12) hx hb hts iw_k_X9_worst_X9 hown hK hP 0 rfl rfl 0 (by decide) (hts (.fieldLink RX9 10 "TopTurned" "now" "LTopTurned$Told;") (by decide +kernel)) (fun _ h9 => h9) rfl dX9_worst_7 ?_
    refine va_get (D := D) (ci := 6) (v := .int 0) (C := RX6) (T := TX6) (N := 17) hx hb hts iw_k_X9_worst_X6 hown hK hP 2 rfl rfl 0 (by decide) (hts (.fieldLink RX9 115 "TopTurned$Told" "plates" "I") (by decide +kernel)) (fun _ h9 => h9) rfl dX9_worst_10 ?_
    refine lv_icmp_lt (tgt := 22) hx hb dX9_worst_13 (by decide) (fun c3 => ?_) (fun c3 => ?_)
    · refine lv_aload_n hx hb dX9_worst_22 rfl (lv_at hl 0 rfl) ?_
      refine va_get (D := D) (ci := 9) (v := .ref h2) (C := RX9) (T := TX9) (N := 12) hx hb hts iw_k_X9_worst_X9 hown hK hP 0 rfl rfl 0 (by decide) (hts (.fieldLink RX9 10 "TopTurned" "now" "LTopTurned$Told;") (by decide +kernel)) (fun _ h9 => h9) rfl dX9_worst_23 ?_
      refine va_get (D := D) (ci := 6) (v := .int 0) (C := RX6) (T := TX6) (N := 17) hx hb hts iw_k_X9_worst_X6 hown hK hP 2 rfl rfl 0 (by decide) (hts (.fieldLink RX9 115 "TopTurned$Told" "plates" "I") (by decide +kernel)) (fun _ h9 => h9) rfl dX9_worst_26 ?_
      refine lv_if_ne (tgt := 39) hx hb dX9_worst_29 (by decide) (fun c => absurd (by decide) c) (fun _ => ?_)
      refine lv_aload_n hx hb dX9_worst_32 rfl (lv_at hl 0 rfl) ?_
      refine lv_bipush (v := (-3)) hx hb dX9_worst_33 (by decide) ?_
      have hPc := hP.sub (ws' := [(h0, .inr (9, [.ref h2, .ref h3, .ref h4, .int 0, .ref h5, .ref h6, .ref h7, .ref h8, .ref h9, .ref h10, .ref h11, .ref h1])), (h1, .inl (cI, 7, .inl (fun _ => 0)))]) [0, 1] rfl
      have hDc := hD.sub (ws' := [(h0, .inr (9, [.ref h2, .ref h3, .ref h4, .int 0, .ref h5, .ref h6, .ref h7, .ref h8, .ref h9, .ref h10, .ref h11, .ref h1])), (h1, .inl (cI, 7, .inl (fun _ => 0)))]) [0, 1] (by decide) rfl
      have hFc := va_free (wc := [(h0, .inr (9, [.ref h2, .ref h3, .ref h4, .int 0, .ref h5, .ref h6, .ref h7, .ref h8, .ref h9, .ref h10, .ref h11, .ref h1])), (h1, .inl (cI, 7, .inl (fun _ => 0)))]) hD hS hA [0, 1] rfl
      refine va_calli (va_runV (As := [.int (-3)]) (rest := []) ⟨hx, hb, hml, hown, hts⟩ (k_X9_refuse_4 l D cC cI cZ h0 h1 h2 h3 h4 h5 h6 h7 h8 h9 h10 h11 s.heap.size ) (cwV (C := RX9) 1 hts (goodIn_app (goodIn_of _ (by decide +kernel)) gc_k_X9_worst_k_X9_refuse_4) rfl rfl rfl (by decide +kernel) ⟨(Nat.le_of_ble_eq_true rfl), (Nat.le_of_ble_eq_true rfl)⟩) (kPreV hK hPc hDc (va_recv hK hPc (ci := 9) (q0 := 0) rfl rfl)) rfl rfl hl.1 rfl (lv_room (Nat.le_of_ble_eq_true rfl)) dX9_worst_35 ⟨(Nat.le_of_ble_eq_true rfl), (Nat.le_of_ble_eq_true rfl)⟩) hS (fun q _ h => hFc q h) hFc (fun r4 u t H1 locs ht hvm hw hB hz1 hk1 hS => ?_)
      obtain ⟨hP1, hD1⟩ := hB
      rw [ht] at hP1
      obtain ⟨hP, hD⟩ := va_join (wr := [(h2, .inr (6, [.int 0, .ref h12, .ref h13, .int 0, .int 5, .int 9, .int 0, .int 1, .int 0, .int 0, .ref h14, .ref h15, .int 0, .ref h16, .int 0, .ref h17, .int 0]))]) (w1 := [(h0, .inr (9, [.ref h2, .ref h3, .ref h4, .int 0, .ref h5, .ref h6, .ref h7, .ref h8, .ref h9, .ref h10, .ref h11, .ref h1])), (h1, .inl (cI, 7, .inl (upd (fun _ => 0) (Int32.toNatClampNeg 3) 1)))]) hP hD [0, 1] [2] rfl rfl (by decide) (by decide) hk1 hFc hP1 hD1
      generalize H1 = H at hP hS ⊢
      have hP : va_P D vwCl [(h2, .inr (6, [.int 0, .ref h12, .ref h13, .int 0, .int 5, .int 9, .int 0, .int 1, .int 0, .int 0, .ref h14, .ref h15, .int 0, .ref h16, .int 0, .ref h17, .int 0])), (h0, .inr (9, [.ref h2, .ref h3, .ref h4, .int 0, .ref h5, .ref h6, .ref h7, .ref h8, .ref h9, .ref h10, .ref h11, .ref h1])), (h1, .inl (cI, 7, .inl (upd (fun _ => 0) (Int32.toNatClampNeg 3) 1)))] H := hP
      have hD : va_D A [(h2, .inr (6, [.int 0, .ref h12, .ref h13, .int 0, .int 5, .int 9, .int 0, .int 1, .int 0, .int 0, .ref h14, .ref h15, .int 0, .ref h16, .int 0, .ref h17, .int 0])), (h0, .inr (9, [.ref h2, .ref h3, .ref h4, .int 0, .ref h5, .ref h6, .ref h7, .ref h8, .ref h9, .ref h10, .ref h11, .ref h1])), (h1, .inl (cI, 7, .inl (upd (fun _ => 0) (Int32.toNatClampNeg 3) 1)))] := hD
      have hw : r4 = (-3) := hw
      subst hw
      refine W.widen (k := 0) (n := 0) (Nat.le_of_ble_eq_true rfl) (Nat.le_of_ble_eq_true rfl) ?_
      exact W.iret (v := (-3)) hx hb hr (fun t ht hW => ⟨⟨(-3), (), rfl, (by rw [if_neg c1, if_pos c3]), trivial⟩, hS.F ht⟩) hS.2.2 dX9_worst_38
    · refine lv_aload_n hx hb dX9_worst_16 rfl (lv_at hl 0 rfl) ?_
      refine lv_iconst (v := (-1)) hx hb dX9_worst_17 (by decide) ?_
      have hPc := hP.sub (ws' := [(h0, .inr (9, [.ref h2, .ref h3, .ref h4, .int 0, .ref h5, .ref h6, .ref h7, .ref h8, .ref h9, .ref h10, .ref h11, .ref h1])), (h1, .inl (cI, 7, .inl (fun _ => 0)))]) [0, 1] rfl
      have hDc := hD.sub (ws' := [(h0, .inr (9, [.ref h2, .ref h3, .ref h4, .int 0, .ref h5, .ref h6, .ref h7, .ref h8, .ref h9, .ref h10, .ref h11, .ref h1])), (h1, .inl (cI, 7, .inl (fun _ => 0)))]) [0, 1] (by decide) rfl
      have hFc := va_free (wc := [(h0, .inr (9, [.ref h2, .ref h3, .ref h4, .int 0, .ref h5, .ref h6, .ref h7, .ref h8, .ref h9, .ref h10, .ref h11, .ref h1])), (h1, .inl (cI, 7, .inl (fun _ => 0)))]) hD hS hA [0, 1] rfl
      refine va_calli (va_runV (As := [.int (-1)]) (rest := []) ⟨hx, hb, hml, hown, hts⟩ (k_X9_refuse_2 l D cC cI cZ h0 h1 h2 h3 h4 h5 h6 h7 h8 h9 h10 h11 s.heap.size ) (cwV (C := RX9) 1 hts (goodIn_app (goodIn_of _ (by decide +kernel)) gc_k_X9_worst_k_X9_refuse_2) rfl rfl rfl (by decide +kernel) ⟨(Nat.le_of_ble_eq_true rfl), (Nat.le_of_ble_eq_true rfl)⟩) (kPreV hK hPc hDc (va_recv hK hPc (ci := 9) (q0 := 0) rfl rfl)) rfl rfl hl.1 rfl (lv_room (Nat.le_of_ble_eq_true rfl)) dX9_worst_18 ⟨(Nat.le_of_ble_eq_true rfl), (Nat.le_of_ble_eq_true rfl)⟩) hS (fun q _ h => hFc q h) hFc (fun r5 u t H1 locs ht hvm hw hB hz1 hk1 hS => ?_)
      obtain ⟨hP1, hD1⟩ := hB
      rw [ht] at hP1
      obtain ⟨hP, hD⟩ := va_join (wr := [(h2, .inr (6, [.int 0, .ref h12, .ref h13, .int 0, .int 5, .int 9, .int 0, .int 1, .int 0, .int 0, .ref h14, .ref h15, .int 0, .ref h16, .int 0, .ref h17, .int 0]))]) (w1 := [(h0, .inr (9, [.ref h2, .ref h3, .ref h4, .int 0, .ref h5, .ref h6, .ref h7, .ref h8, .ref h9, .ref h10, .ref h11, .ref h1])), (h1, .inl (cI, 7, .inl (upd (fun _ => 0) (Int32.toNatClampNeg 1) 1)))]) hP hD [0, 1] [2] rfl rfl (by decide) (by decide) hk1 hFc hP1 hD1
      generalize H1 = H at hP hS ⊢
      have hP : va_P D vwCl [(h2, .inr (6, [.int 0, .ref h12, .ref h13, .int 0, .int 5, .int 9, .int 0, .int 1, .int 0, .int 0, .ref h14, .ref h15, .int 0, .ref h16, .int 0, .ref h17, .int 0])), (h0, .inr (9, [.ref h2, .ref h3, .ref h4, .int 0, .ref h5, .ref h6, .ref h7, .ref h8, .ref h9, .ref h10, .ref h11, .ref h1])), (h1, .inl (cI, 7, .inl (upd (fun _ => 0) (Int32.toNatClampNeg 1) 1)))] H := hP
      have hD : va_D A [(h2, .inr (6, [.int 0, .ref h12, .ref h13, .int 0, .int 5, .int 9, .int 0, .int 1, .int 0, .int 0, .ref h14, .ref h15, .int 0, .ref h16, .int 0, .ref h17, .int 0])), (h0, .inr (9, [.ref h2, .ref h3, .ref h4, .int 0, .ref h5, .ref h6, .ref h7, .ref h8, .ref h9, .ref h10, .ref h11, .ref h1])), (h1, .inl (cI, 7, .inl (upd (fun _ => 0) (Int32.toNatClampNeg 1) 1)))] := hD
      have hw : r5 = (-1) := hw
      subst hw
      refine W.widen (k := 0) (n := 0) (Nat.le_of_ble_eq_true rfl) (Nat.le_of_ble_eq_true rfl) ?_
      exact W.iret (v := (-1)) hx hb hr (fun t ht hW => ⟨⟨(-1), (), rfl, (by rw [if_neg c1, if_neg c3]), trivial⟩, hS.F ht⟩) hS.2.2 dX9_worst_21
def sw_k_X8_fillFirst : List Cond := .code yX8_fillFirst cX8_fillFirst 3 none :: (([.fieldLink RX8 9 "TopTurned$Walks" "space" "LTopTurned$Space;", .fieldLink RX8 48 "TopTurned$Space" "states" "I", .fieldLink RX8 33 "TopTurned$Walks" "first" "[I"] : List Cond) ++ (wsX80 ++ (wsX50 ++ (([] : List Cond)))))
theorem gd_k_X8_fillFirst : ∀ w ∈ sw_k_X8_fillFirst, (w.onTables && w.keeps) = true ∨ ∃ ty, w = .arrayClass ty := List.forall_mem_cons.mpr ⟨good_of_word rfl, List.forall_mem_append.mpr ⟨fun w h => good_of_word (List.all_eq_true.mp (by decide +kernel : (([.fieldLink RX8 9 "TopTurned$Walks" "space" "LTopTurned$Space;", .fieldLink RX8 48 "TopTurned$Space" "states" "I", .fieldLink RX8 33 "TopTurned$Walks" "first" "[I"] : List Cond)).all goodWord = true) w h), List.forall_mem_append.mpr ⟨gw_X8, List.forall_mem_append.mpr ⟨gw_X5, fun _ h => absurd h List.not_mem_nil⟩⟩⟩⟩
theorem iw_k_X8_fillFirst_X8 : ∀ w ∈ wsX80, w ∈ sw_k_X8_fillFirst := fun _ h => List.mem_cons_of_mem _ (List.mem_append_right _ (List.mem_append_left _ h))
theorem iw_k_X8_fillFirst_X5 : ∀ w ∈ wsX50, w ∈ sw_k_X8_fillFirst := fun _ h => List.mem_cons_of_mem _ (List.mem_append_right _ (List.mem_append_right _ (List.mem_append_left _ h)))
set_option maxHeartbeats 4000000 in
set_option maxRecDepth 100000 in
theorem k_X8_fillFirst (l : Launch) (D : va_G) (cC cI cZ : ClassId) (h0 h1 h2 h3 h4 h5 h6 h7 h8 h9 h10 h11 h12 : Nat) (sz : Nat) : Met l yX8_fillFirst sw_k_X8_fillFirst ({ frames := 2, cells := 0, slots := 0, locals := 100 }) (va_Pc [.ref h0, .int 0] (kPre D cC cI cZ [(h0, .inr (8, [.ref h1, .ref h3, .ref h4, .ref h5, .ref h2, .ref h6])), (h1, .inr (5, [.int 0, .int 1, .int 1, .int 1, .int 0, .ref h7, .ref h8, .ref h9, .ref h10, .ref h11, .ref h12])), (h2, .inl (cI, 3840, .inl (fun _ => 0)))] sz)) (va_Qv (fun (_ : Unit) => True) (fun _ t => va_P D vwCl [(h0, .inr (8, [.ref h1, .ref h3, .ref h4, .ref h5, .ref h2, .ref h6])), (h1, .inr (5, [.int 0, .int 1, .int 1, .int 1, .int 0, .ref h7, .ref h8, .ref h9, .ref h10, .ref h11, .ref h12])), (h2, .inl (cI, 3840, .inl (fun _ => 0)))] t.heap ∧ va_D (va_A [(h0, .inr (8, [.ref h1, .ref h3, .ref h4, .ref h5, .ref h2, .ref h6])), (h1, .inr (5, [.int 0, .int 1, .int 1, .int 1, .int 0, .ref h7, .ref h8, .ref h9, .ref h10, .ref h11, .ref h12])), (h2, .inl (cI, 3840, .inl (fun _ => 0)))] sz) [(h0, .inr (8, [.ref h1, .ref h3, .ref h4, .ref h5, .ref h2, .ref h6])), (h1, .inr (5, [.int 0, .int 1, .int 1, .int 1, .int 0, .ref h7, .ref h8, .ref h9, .ref h10, .ref h11, .ref h12])), (h2, .inl (cI, 3840, .inl (fun _ => 0)))]) (va_A [(h0, .inr (8, [.ref h1, .ref h3, .ref h4, .ref h5, .ref h2, .ref h6])), (h1, .inr (5, [.int 0, .int 1, .int 1, .int 1, .int 0, .ref h7, .ref h8, .ref h9, .ref h10, .ref h11, .ref h12])), (h2, .inl (cI, 3840, .inl (fun _ => 0)))] sz)) 0 0 (va_A [(h0, .inr (8, [.ref h1, .ref h3, .ref h4, .ref h5, .ref h2, .ref h6])), (h1, .inr (5, [.int 0, .int 1, .int 1, .int 1, .int 0, .ref h7, .ref h8, .ref h9, .ref h10, .ref h11, .ref h12])), (h2, .inl (cI, 3840, .inl (fun _ => 0)))] sz) := by
  refine Met.ofW (cc := cX8_fillFirst) (maxL := 3) (ret := none) (by decide) rfl ?_
  intro p e s m args below meth c s₁ B hml hv
  obtain ⟨rfl, hsz, hP, hK, hD0⟩ := hv
  have hx := B.exec
  have hb := B.bytes
  have hr := B.returns
  have hts := atoms_spec (ws := sw_k_X8_fillFirst) B.pre
  have hown : s.vm.findClass RX8 = some m.cls := findClass_of_methodNamed B.named
  have hlocks := B.notSynchronized
  subst hsz
  have hD := hD0.self (sz := s.heap.size)
  generalize hAe : va_A [(h0, .inr (8, [.ref h1, .ref h3, .ref h4, .ref h5, .ref h2, .ref h6])), (h1, .inr (5, [.int 0, .int 1, .int 1, .int 1, .int 0, .ref h7, .ref h8, .ref h9, .ref h10, .ref h11, .ref h12])), (h2, .inl (cI, 3840, .inl (fun _ => 0)))] s.heap.size = A at hD ⊢
  have hA : ∀ q : Nat, s.heap.size ≤ q → A q := fun q h => by rw [← hAe]; exact Or.inr h
  have hS : va_S A s.heap s.heap [] := va_S.rf
  have hl := lv_entry ([.ref h0, .int 0]) (n := 3) (Nat.le_of_ble_eq_true rfl)
  rw [lg_entry_eq]
  generalize (lg_sl ([.ref h0, .int 0]) ++ List.replicate (3 - (lg_sl ([.ref h0, .int 0])).length) Slot.unset).toArray = ls at hl ⊢
  have hl : lv_has ls 3 [(0, .ref h0), (1, .int 0)] := hl
  refine lv_iconst (v := 0) hx hb dX8_fillFirst_0 (by decide) ?_
  refine lv_istore_n (lv' := [(2, .int 0), (0, .ref h0), (1, .int 0)]) hx hb dX8_fillFirst_1 rfl hl (by decide) rfl (fun ls hl => ?_)
  refine lv_iload_n hx hb dX8_fillFirst_2 rfl (lv_at hl 0 rfl) ?_
  refine lv_aload_n hx hb dX8_fillFirst_3 rfl (lv_at hl 1 rfl) ?_
  refine va_get (D := D) (ci := 8) (v := .ref h1) (C := RX8) (T := TX8) (N := 6) hx hb hts iw_k_X8_fillFirst_X8 hown hK hP 0 rfl rfl 0 (by decide) (hts (.fieldLink RX8 9 "TopTurned$Walks" "space" "LTopTurned$Space;") (by decide +kernel)) (fun _ h9 => h9) rfl dX8_fillFirst_4 ?_
  refine va_get (D := D) (ci := 5) (v := .int 1) (C := RX5) (T := TX5) (N := 11) hx hb hts iw_k_X8_fillFirst_X5 hown hK hP 1 rfl rfl 3 (by decide) (hts (.fieldLink RX8 48 "TopTurned$Space" "states" "I") (by decide +kernel)) (fun _ h9 => h9) rfl dX8_fillFirst_7 ?_
  refine lv_icmp_ge (tgt := 26) hx hb dX8_fillFirst_10 (by decide) (fun c => absurd c (by decide)) (fun _ => ?_)
  refine lv_aload_n hx hb dX8_fillFirst_13 rfl (lv_at hl 1 rfl) ?_
  refine va_get (D := D) (ci := 8) (v := .ref h2) (C := RX8) (T := TX8) (N := 6) hx hb hts iw_k_X8_fillFirst_X8 hown hK hP 0 rfl rfl 4 (by decide) (hts (.fieldLink RX8 33 "TopTurned$Walks" "first" "[I") (by decide +kernel)) (fun _ h9 => h9) rfl dX8_fillFirst_14 ?_
  refine lv_iload_n hx hb dX8_fillFirst_17 rfl (lv_at hl 0 rfl) ?_
  refine lv_iload_n hx hb dX8_fillFirst_18 rfl (lv_at hl 2 rfl) ?_
  refine kn_iastS (i := 0) (x := 0) hx hb hK hP hD hS 2 1 rfl rfl (vp_in_iff.mpr (by decide)) (by decide +kernel) dX8_fillFirst_19 (fun H locs hP hD hS => ?_)
  refine lv_iinc (v := 1) (lv' := [(2, .int 1), (0, .ref h0), (1, .int 0)]) hx hb dX8_fillFirst_20 hl (k := 0) rfl (by decide) (by decide) rfl (fun ls hl => ?_)
  refine lv_goto (tgt := 2) hx hb dX8_fillFirst_23 (by decide) ?_
  refine lv_iload_n hx hb dX8_fillFirst_2 rfl (lv_at hl 0 rfl) ?_
  refine lv_aload_n hx hb dX8_fillFirst_3 rfl (lv_at hl 1 rfl) ?_
  refine va_get (D := D) (ci := 8) (v := .ref h1) (C := RX8) (T := TX8) (N := 6) hx hb hts iw_k_X8_fillFirst_X8 hown hK hP 0 rfl rfl 0 (by decide) (hts (.fieldLink RX8 9 "TopTurned$Walks" "space" "LTopTurned$Space;") (by decide +kernel)) (fun _ h9 => h9) rfl dX8_fillFirst_4 ?_
  refine va_get (D := D) (ci := 5) (v := .int 1) (C := RX5) (T := TX5) (N := 11) hx hb hts iw_k_X8_fillFirst_X5 hown hK hP 1 rfl rfl 3 (by decide) (hts (.fieldLink RX8 48 "TopTurned$Space" "states" "I") (by decide +kernel)) (fun _ h9 => h9) rfl dX8_fillFirst_7 ?_
  refine lv_icmp_ge (tgt := 26) hx hb dX8_fillFirst_10 (by decide) (fun _ => ?_) (fun c => absurd (by decide) c)
  refine W.widen (k := 0) (n := 0) (Nat.le_of_ble_eq_true rfl) (Nat.le_of_ble_eq_true rfl) ?_
  have hP9 := hP.sub (ws' := [(h0, .inr (8, [.ref h1, .ref h3, .ref h4, .ref h5, .ref h2, .ref h6])), (h1, .inr (5, [.int 0, .int 1, .int 1, .int 1, .int 0, .ref h7, .ref h8, .ref h9, .ref h10, .ref h11, .ref h12])), (h2, .inl (cI, 3840, .inl (fun _ => 0)))]) [0, 1, 2] rfl
  have hD9 := hD.sub (ws' := [(h0, .inr (8, [.ref h1, .ref h3, .ref h4, .ref h5, .ref h2, .ref h6])), (h1, .inr (5, [.int 0, .int 1, .int 1, .int 1, .int 0, .ref h7, .ref h8, .ref h9, .ref h10, .ref h11, .ref h12])), (h2, .inl (cI, 3840, .inl (fun _ => 0)))]) [0, 1, 2] (by decide) rfl
  exact W.vret hx hb hr (fun t ht hW => ⟨⟨(), rfl, trivial, ⟨by rw [ht]; exact hP9, hD9⟩⟩, hS.F ht⟩) hS.2.2 dX8_fillFirst_26
