def sw_k_X9_row : List Cond := .code yX9_row cX9_row 2 (some .int) :: (([.methodLink RX9 94 yX9_refuse, .instanceMethod yX9_refuse, .selects RX9 yX9_refuse yX9_refuse, .initialized RX9, .fieldLink RX9 10 "TopTurned" "now" "LTopTurned$Told;", .fieldLink RX9 192 "TopTurned$Told" "rowCount" "I", .fieldLink RX9 195 "TopTurned$Told" "row" "[I"] : List Cond) ++ (sw_k_X9_refuse ++ (wsX90 ++ (wsX60 ++ (sw_k_X9_refuse_1 ++ (([] : List Cond)))))))
theorem gd_k_X9_row : ∀ w ∈ sw_k_X9_row, (w.onTables && w.keeps) = true ∨ ∃ ty, w = .arrayClass ty := List.forall_mem_cons.mpr ⟨good_of_word rfl, List.forall_mem_append.mpr ⟨fun w h => good_of_word (List.all_eq_true.mp (by decide +kernel : (([.methodLink RX9 94 yX9_refuse, .instanceMethod yX9_refuse, .selects RX9 yX9_refuse yX9_refuse, .initialized RX9, .fieldLink RX9 10 "TopTurned" "now" "LTopTurned$Told;", .fieldLink RX9 192 "TopTurned$Told" "rowCount" "I", .fieldLink RX9 195 "TopTurned$Told" "row" "[I"] : List Cond)).all goodWord = true) w h), List.forall_mem_append.mpr ⟨gd_k_X9_refuse, List.forall_mem_append.mpr ⟨gw_X9, List.forall_mem_append.mpr ⟨gw_X6, List.forall_mem_append.mpr ⟨gd_k_X9_refuse_1, fun _ h => absurd h List.not_mem_nil⟩⟩⟩⟩⟩⟩
theorem gc_k_X9_row_k_X9_refuse : GoodIn sw_k_X9_row sw_k_X9_refuse := fun w h => ⟨List.mem_cons_of_mem _ (List.mem_append_right _ (List.mem_append_left _ h)), gd_k_X9_refuse w h⟩
theorem iw_k_X9_row_X9 : ∀ w ∈ wsX90, w ∈ sw_k_X9_row := fun _ h => List.mem_cons_of_mem _ (List.mem_append_right _ (List.mem_append_right _ (List.mem_append_left _ h)))
theorem iw_k_X9_row_X6 : ∀ w ∈ wsX60, w ∈ sw_k_X9_row := fun _ h => List.mem_cons_of_mem _ (List.mem_append_right _ (List.mem_append_right _ (List.mem_append_right _ (List.mem_append_left _ h))))
theorem gc_k_X9_row_k_X9_refuse_1 : GoodIn sw_k_X9_row sw_k_X9_refuse_1 := fun w h => ⟨List.mem_cons_of_mem _ (List.mem_append_right _ (List.mem_append_right _ (List.mem_append_right _ (List.mem_append_right _ (List.mem_append_left _ h))))), gd_k_X9_refuse_1 w h⟩
set_option maxHeartbeats 4000000 in
set_option maxRecDepth 100000 in
theorem k_X9_row (l : Launch) (D : va_G) (cC cI cZ : ClassId) (h0 h1 h2 h3 h4 h5 h6 h7 h8 h9 h10 h11 h12 h13 h14 h15 h16 h17 : Nat) (sz : Nat) (p1 : Int32) : Met l yX9_row sw_k_X9_row ({ frames := 4, cells := 0, slots := 0, locals := 200 }) (va_Pc [.ref h0, .int p1] (kPre D cC cI cZ [(h0, .inr (9, [.ref h2, .ref h4, .ref h5, .int 0, .ref h6, .ref h7, .ref h8, .ref h9, .ref h10, .ref h11, .ref h12, .ref h1])), (h1, .inl (cI, 7, .inl (fun _ => 0))), (h2, .inr (6, [.int 0, .ref h13, .ref h14, .int 0, .int 5, .int 9, .int 0, .int 1, .int 0, .int 0, .ref h15, .ref h16, .int 0, .ref h17, .int 0, .ref h3, .int 0])), (h3, .inl (cI, 8, .inl (fun _ => 0)))] sz)) (va_Qi (fun (r : Int32) (_ : Unit) => r = (if 0 ≤ p1 then (if 99 < p1 then (-6) else 1) else (-4))) (fun _ _ => True) (va_A [(h0, .inr (9, [.ref h2, .ref h4, .ref h5, .int 0, .ref h6, .ref h7, .ref h8, .ref h9, .ref h10, .ref h11, .ref h12, .ref h1])), (h1, .inl (cI, 7, .inl (fun _ => 0))), (h2, .inr (6, [.int 0, .ref h13, .ref h14, .int 0, .int 5, .int 9, .int 0, .int 1, .int 0, .int 0, .ref h15, .ref h16, .int 0, .ref h17, .int 0, .ref h3, .int 0])), (h3, .inl (cI, 8, .inl (fun _ => 0)))] sz)) 0 0 (va_A [(h0, .inr (9, [.ref h2, .ref h4, .ref h5, .int 0, .ref h6, .ref h7, .ref h8, .ref h9, .ref h10, .ref h11, .ref h12, .ref h1])), (h1, .inl (cI, 7, .inl (fun _ => 0))), (h2, .inr (6, [.int 0, .ref h13, .ref h14, .int 0, .int 5, .int 9, .int 0, .int 1, .int 0, .int 0, .ref h15, .ref h16, .int 0, .ref h17, .int 0, .ref h3, .int 0])), (h3, .inl (cI, 8, .inl (fun _ => 0)))] sz) := by
  refine Met.ofW (cc := cX9_row) (maxL := 2) (ret := (some .int)) (by decide) rfl ?_
  intro p e s m args below meth c s₁ B hml hv
  obtain ⟨rfl, hsz, hP, hK, hD0⟩ := hv
  have hx := B.exec
  have hb := B.bytes
  have hr := B.returns
  have hts := atoms_spec (ws := sw_k_X9_row) B.pre
  have hown : s.vm.findClass RX9 = some m.cls := findClass_of_methodNamed B.named
  have hlocks := B.notSynchronized
  subst hsz
  have hD := hD0.self (sz := s.heap.size)
  generalize hAe : va_A [(h0, .inr (9, [.ref h2, .ref h4, .ref h5, .int 0, .ref h6, .ref h7, .ref h8, .ref h9, .ref h10, .ref h11, .ref h12, .ref h1])), (h1, .inl (cI, 7, .inl (fun _ => 0))), (h2, .inr (6, [.int 0, .ref h13, .ref h14, .int 0, .int 5, .int 9, .int 0, .int 1, .int 0, .int 0, .ref h15, .ref h16, .int 0, .ref h17, .int 0, .ref h3, .int 0])), (h3, .inl (cI, 8, .inl (fun _ => 0)))] s.heap.size = A at hD ⊢
  have hA : ∀ q : Nat, s.heap.size ≤ q → A q := fun q h => by rw [← hAe]; exact Or.inr h
  have hS : va_S A s.heap s.heap [] := va_S.rf
  have hl := lv_entry ([.ref h0, .int p1]) (n := 2) (Nat.le_of_ble_eq_true rfl)
  rw [lg_entry_eq]
  generalize (lg_sl ([.ref h0, .int p1]) ++ List.replicate (2 - (lg_sl ([.ref h0, .int p1])).length) Slot.unset).toArray = ls at hl ⊢
  have hl : lv_has ls 2 [(0, .ref h0), (1, .int p1)] := hl
  refine lv_iload_n hx hb dX9_row_0 rfl (lv_at hl 1 rfl) ?_
  refine lv_if_ge (tgt := 11) hx hb dX9_row_1 (by decide) (fun c1 => ?_) (fun c1 => ?_)
  · refine lv_iload_n hx hb dX9_row_11 rfl (lv_at hl 1 rfl) ?_
    refine lv_bipush (v := 99) hx hb dX9_row_12 (by decide) ?_
    refine lv_icmp_gt (tgt := 29) hx hb dX9_row_14 (by decide) (fun c2 => ?_) (fun c2 => ?_)
    · refine lv_aload_n hx hb dX9_row_29 rfl (lv_at hl 0 rfl) ?_
      refine lv_bipush (v := (-6)) hx hb dX9_row_30 (by decide) ?_
      have hPc := hP.sub (ws' := [(h0, .inr (9, [.ref h2, .ref h4, .ref h5, .int 0, .ref h6, .ref h7, .ref h8, .ref h9, .ref h10, .ref h11, .ref h12, .ref h1])), (h1, .inl (cI, 7, .inl (fun _ => 0)))]) [0, 1] rfl
      have hDc := hD.sub (ws' := [(h0, .inr (9, [.ref h2, .ref h4, .ref h5, .int 0, .ref h6, .ref h7, .ref h8, .ref h9, .ref h10, .ref h11, .ref h12, .ref h1])), (h1, .inl (cI, 7, .inl (fun _ => 0)))]) [0, 1] (by decide) rfl
      have hFc := va_free (wc := [(h0, .inr (9, [.ref h2, .ref h4, .ref h5, .int 0, .ref h6, .ref h7, .ref h8, .ref h9, .ref h10, .ref h11, .ref h12, .ref h1])), (h1, .inl (cI, 7, .inl (fun _ => 0)))]) hD hS hA [0, 1] rfl
      refine va_calli (va_runV (As := [.int (-6)]) (rest := []) ⟨hx, hb, hml, hown, hts⟩ (k_X9_refuse l D cC cI cZ h0 h1 h2 h4 h5 h6 h7 h8 h9 h10 h11 h12 s.heap.size ) (cwV (C := RX9) 1 hts (goodIn_app (goodIn_of _ (by decide +kernel)) gc_k_X9_row_k_X9_refuse) rfl rfl rfl (by decide +kernel) ⟨(Nat.le_of_ble_eq_true rfl), (Nat.le_of_ble_eq_true rfl)⟩) (kPreV hK hPc hDc (va_recv hK hPc (ci := 9) (q0 := 0) rfl rfl)) rfl rfl hl.1 rfl (lv_room (Nat.le_of_ble_eq_true rfl)) dX9_row_32 ⟨(Nat.le_of_ble_eq_true rfl), (Nat.le_of_ble_eq_true rfl)⟩) hS (fun q _ h => hFc q h) hFc (fun r3 u t H1 locs ht hvm hw hB hz1 hk1 hS => ?_)
      obtain ⟨hP1, hD1⟩ := hB
      rw [ht] at hP1
      obtain ⟨hP, hD⟩ := va_join (wr := [(h2, .inr (6, [.int 0, .ref h13, .ref h14, .int 0, .int 5, .int 9, .int 0, .int 1, .int 0, .int 0, .ref h15, .ref h16, .int 0, .ref h17, .int 0, .ref h3, .int 0])), (h3, .inl (cI, 8, .inl (fun _ => 0)))]) (w1 := [(h0, .inr (9, [.ref h2, .ref h4, .ref h5, .int 0, .ref h6, .ref h7, .ref h8, .ref h9, .ref h10, .ref h11, .ref h12, .ref h1])), (h1, .inl (cI, 7, .inl (upd (fun _ => 0) (Int32.toNatClampNeg 6) 1)))]) hP hD [0, 1] [2, 3] rfl rfl (by decide) (by decide) hk1 hFc hP1 hD1
      generalize H1 = H at hP hS ⊢
      have hP : va_P D vwCl [(h2, .inr (6, [.int 0, .ref h13, .ref h14, .int 0, .int 5, .int 9, .int 0, .int 1, .int 0, .int 0, .ref h15, .ref h16, .int 0, .ref h17, .int 0, .ref h3, .int 0])), (h3, .inl (cI, 8, .inl (fun _ => 0))), (h0, .inr (9, [.ref h2, .ref h4, .ref h5, .int 0, .ref h6, .ref h7, .ref h8, .ref h9, .ref h10, .ref h11, .ref h12, .ref h1])), (h1, .inl (cI, 7, .inl (upd (fun _ => 0) (Int32.toNatClampNeg 6) 1)))] H := hP
      have hD : va_D A [(h2, .inr (6, [.int 0, .ref h13, .ref h14, .int 0, .int 5, .int 9, .int 0, .int 1, .int 0, .int 0, .ref h15, .ref h16, .int 0, .ref h17, .int 0, .ref h3, .int 0])), (h3, .inl (cI, 8, .inl (fun _ => 0))), (h0, .inr (9, [.ref h2, .ref h4, .ref h5, .int 0, .ref h6, .ref h7, .ref h8, .ref h9, .ref h10, .ref h11, .ref h12, .ref h1])), (h1, .inl (cI, 7, .inl (upd (fun _ => 0) (Int32.toNatClampNeg 6) 1)))] := hD
      have hw : r3 = (-6) := hw
      subst hw
      refine W.widen (k := 0) (n := 0) (Nat.le_of_ble_eq_true rfl) (Nat.le_of_ble_eq_true rfl) ?_
      exact W.iret (v := (-6)) hx hb hr (fun t ht hW => ⟨⟨(-6), (), rfl, (by rw [if_pos c1, if_pos c2]), trivial⟩, hS.F ht⟩) hS.2.2 dX9_row_35
    · refine lv_aload_n hx hb dX9_row_17 rfl (lv_at hl 0 rfl) ?_
      refine va_get (D := D) (ci := 9) (v := .ref h2) (C := RX9) (T := TX9) (N := 12) hx hb hts iw_k_X9_row_X9 hown hK hP 0 rfl rfl 0 (by decide) (hts (.fieldLink RX9 10 "TopTurned" "now" "LTopTurned$Told;") (by decide +kernel)) (fun _ h9 => h9) rfl dX9_row_18 ?_
      refine va_get (D := D) (ci := 6) (v := .int 0) (C := RX6) (T := TX6) (N := 17) hx hb hts iw_k_X9_row_X6 hown hK hP 2 rfl rfl 16 (by decide) (hts (.fieldLink RX9 192 "TopTurned$Told" "rowCount" "I") (by decide +kernel)) (fun _ h9 => h9) rfl dX9_row_21 ?_
      refine lv_bipush (v := 8) hx hb dX9_row_24 (by decide) ?_
      refine lv_icmp_lt (tgt := 36) hx hb dX9_row_26 (by decide) (fun _ => ?_) (fun c => absurd (by decide) c)
      refine lv_aload_n hx hb dX9_row_36 rfl (lv_at hl 0 rfl) ?_
      refine va_get (D := D) (ci := 9) (v := .ref h2) (C := RX9) (T := TX9) (N := 12) hx hb hts iw_k_X9_row_X9 hown hK hP 0 rfl rfl 0 (by decide) (hts (.fieldLink RX9 10 "TopTurned" "now" "LTopTurned$Told;") (by decide +kernel)) (fun _ h9 => h9) rfl dX9_row_37 ?_
      refine va_get (D := D) (ci := 6) (v := .ref h3) (C := RX6) (T := TX6) (N := 17) hx hb hts iw_k_X9_row_X6 hown hK hP 2 rfl rfl 15 (by decide) (hts (.fieldLink RX9 195 "TopTurned$Told" "row" "[I") (by decide +kernel)) (fun _ h9 => h9) rfl dX9_row_40 ?_
      refine lv_aload_n hx hb dX9_row_43 rfl (lv_at hl 0 rfl) ?_
      refine va_get (D := D) (ci := 9) (v := .ref h2) (C := RX9) (T := TX9) (N := 12) hx hb hts iw_k_X9_row_X9 hown hK hP 0 rfl rfl 0 (by decide) (hts (.fieldLink RX9 10 "TopTurned" "now" "LTopTurned$Told;") (by decide +kernel)) (fun _ h9 => h9) rfl dX9_row_44 ?_
      refine va_get (D := D) (ci := 6) (v := .int 0) (C := RX6) (T := TX6) (N := 17) hx hb hts iw_k_X9_row_X6 hown hK hP 2 rfl rfl 16 (by decide) (hts (.fieldLink RX9 192 "TopTurned$Told" "rowCount" "I") (by decide +kernel)) (fun _ h9 => h9) rfl dX9_row_47 ?_
      refine lv_iload_n hx hb dX9_row_50 rfl (lv_at hl 1 rfl) ?_
      refine va_iast (i := 0) (x := p1) hx hb hK hP hD hS 3 1 rfl rfl (vp_in_iff.mpr (by decide)) dX9_row_51 (fun H locs hP hD hS => ?_)
      have hP : va_P D vwCl [(h0, .inr (9, [.ref h2, .ref h4, .ref h5, .int 0, .ref h6, .ref h7, .ref h8, .ref h9, .ref h10, .ref h11, .ref h12, .ref h1])), (h1, .inl (cI, 7, .inl (fun _ => 0))), (h2, .inr (6, [.int 0, .ref h13, .ref h14, .int 0, .int 5, .int 9, .int 0, .int 1, .int 0, .int 0, .ref h15, .ref h16, .int 0, .ref h17, .int 0, .ref h3, .int 0])), (h3, .inl (cI, 8, .inl (upd (fun _ => 0) (Int32.toNatClampNeg 0) p1)))] H := hP
      have hD : va_D A [(h0, .inr (9, [.ref h2, .ref h4, .ref h5, .int 0, .ref h6, .ref h7, .ref h8, .ref h9, .ref h10, .ref h11, .ref h12, .ref h1])), (h1, .inl (cI, 7, .inl (fun _ => 0))), (h2, .inr (6, [.int 0, .ref h13, .ref h14, .int 0, .int 5, .int 9, .int 0, .int 1, .int 0, .int 0, .ref h15, .ref h16, .int 0, .ref h17, .int 0, .ref h3, .int 0])), (h3, .inl (cI, 8, .inl (upd (fun _ => 0) (Int32.toNatClampNeg 0) p1)))] := hD
      refine lv_aload_n hx hb dX9_row_52 rfl (lv_at hl 0 rfl) ?_
      refine va_get (D := D) (ci := 9) (v := .ref h2) (C := RX9) (T := TX9) (N := 12) hx hb hts iw_k_X9_row_X9 hown hK hP 0 rfl rfl 0 (by decide) (hts (.fieldLink RX9 10 "TopTurned" "now" "LTopTurned$Told;") (by decide +kernel)) (fun _ h9 => h9) rfl dX9_row_53 ?_
      refine lv_dup hx hb dX9_row_56 rfl ?_
      refine va_get (D := D) (ci := 6) (v := .int 0) (C := RX6) (T := TX6) (N := 17) hx hb hts iw_k_X9_row_X6 hown hK hP 2 rfl rfl 16 (by decide) (hts (.fieldLink RX9 192 "TopTurned$Told" "rowCount" "I") (by decide +kernel)) (fun _ h9 => h9) rfl dX9_row_57 ?_
      refine lv_iconst (v := 1) hx hb dX9_row_60 (by decide) ?_
      refine lv_iadd hx hb dX9_row_61 ?_
      refine kt_eq (y := 1) (by decide +kernel) ?_
      refine va_put (D := D) (ci := 6) (v := .int 1) (ty := .int) (C := RX6) (T := TX6) (N := 17) hx hb hts iw_k_X9_row_X6 tyX6 tyX6_ok nmX6 hown hK hP hD hS 2 rfl rfl 16 (by decide) (hts (.fieldLink RX9 192 "TopTurned$Told" "rowCount" "I") (by decide +kernel)) (fun _ h9 => h9) rfl (by decide +kernel) rfl rfl (Nat.le_of_ble_eq_true rfl) dX9_row_62 (fun H locs hP hD hS => ?_)
      have hP : va_P D vwCl [(h0, .inr (9, [.ref h2, .ref h4, .ref h5, .int 0, .ref h6, .ref h7, .ref h8, .ref h9, .ref h10, .ref h11, .ref h12, .ref h1])), (h1, .inl (cI, 7, .inl (fun _ => 0))), (h2, .inr (6, [.int 0, .ref h13, .ref h14, .int 0, .int 5, .int 9, .int 0, .int 1, .int 0, .int 0, .ref h15, .ref h16, .int 0, .ref h17, .int 0, .ref h3, .int 1])), (h3, .inl (cI, 8, .inl (upd (fun _ => 0) (Int32.toNatClampNeg 0) p1)))] H := hP
      have hD : va_D A [(h0, .inr (9, [.ref h2, .ref h4, .ref h5, .int 0, .ref h6, .ref h7, .ref h8, .ref h9, .ref h10, .ref h11, .ref h12, .ref h1])), (h1, .inl (cI, 7, .inl (fun _ => 0))), (h2, .inr (6, [.int 0, .ref h13, .ref h14, .int 0, .int 5, .int 9, .int 0, .int 1, .int 0, .int 0, .ref h15, .ref h16, .int 0, .ref h17, .int 0, .ref h3, .int 1])), (h3, .inl (cI, 8, .inl (upd (fun _ => 0) (Int32.toNatClampNeg 0) p1)))] := hD
      refine lv_aload_n hx hb dX9_row_65 rfl (lv_at hl 0 rfl) ?_
      refine va_get (D := D) (ci := 9) (v := .ref h2) (C := RX9) (T := TX9) (N := 12) hx hb hts iw_k_X9_row_X9 hown hK hP 0 rfl rfl 0 (by decide) (hts (.fieldLink RX9 10 "TopTurned" "now" "LTopTurned$Told;") (by decide +kernel)) (fun _ h9 => h9) rfl dX9_row_66 ?_
      refine va_get (D := D) (ci := 6) (v := .int 1) (C := RX6) (T := TX6) (N := 17) hx hb hts iw_k_X9_row_X6 hown hK hP 2 rfl rfl 16 (by decide) (hts (.fieldLink RX9 192 "TopTurned$Told" "rowCount" "I") (by decide +kernel)) (fun _ h9 => h9) rfl dX9_row_69 ?_
      refine W.widen (k := 0) (n := 0) (Nat.le_of_ble_eq_true rfl) (Nat.le_of_ble_eq_true rfl) ?_
      exact W.iret (v := 1) hx hb hr (fun t ht hW => ⟨⟨1, (), rfl, (by rw [if_pos c1, if_neg c2]), trivial⟩, hS.F ht⟩) hS.2.2 dX9_row_72
  · refine lv_aload_n hx hb dX9_row_4 rfl (lv_at hl 0 rfl) ?_
    refine lv_bipush (v := (-4)) hx hb dX9_row_5 (by decide) ?_
    have hPc := hP.sub (ws' := [(h0, .inr (9, [.ref h2, .ref h4, .ref h5, .int 0, .ref h6, .ref h7, .ref h8, .ref h9, .ref h10, .ref h11, .ref h12, .ref h1])), (h1, .inl (cI, 7, .inl (fun _ => 0)))]) [0, 1] rfl
    have hDc := hD.sub (ws' := [(h0, .inr (9, [.ref h2, .ref h4, .ref h5, .int 0, .ref h6, .ref h7, .ref h8, .ref h9, .ref h10, .ref h11, .ref h12, .ref h1])), (h1, .inl (cI, 7, .inl (fun _ => 0)))]) [0, 1] (by decide) rfl
    have hFc := va_free (wc := [(h0, .inr (9, [.ref h2, .ref h4, .ref h5, .int 0, .ref h6, .ref h7, .ref h8, .ref h9, .ref h10, .ref h11, .ref h12, .ref h1])), (h1, .inl (cI, 7, .inl (fun _ => 0)))]) hD hS hA [0, 1] rfl
    refine va_calli (va_runV (As := [.int (-4)]) (rest := []) ⟨hx, hb, hml, hown, hts⟩ (k_X9_refuse_1 l D cC cI cZ h0 h1 h2 h4 h5 h6 h7 h8 h9 h10 h11 h12 s.heap.size ) (cwV (C := RX9) 1 hts (goodIn_app (goodIn_of _ (by decide +kernel)) gc_k_X9_row_k_X9_refuse_1) rfl rfl rfl (by decide +kernel) ⟨(Nat.le_of_ble_eq_true rfl), (Nat.le_of_ble_eq_true rfl)⟩) (kPreV hK hPc hDc (va_recv hK hPc (ci := 9) (q0 := 0) rfl rfl)) rfl rfl hl.1 rfl (lv_room (Nat.le_of_ble_eq_true rfl)) dX9_row_7 ⟨(Nat.le_of_ble_eq_true rfl), (Nat.le_of_ble_eq_true rfl)⟩) hS (fun q _ h => hFc q h) hFc (fun r4 u t H1 locs ht hvm hw hB hz1 hk1 hS => ?_)
    obtain ⟨hP1, hD1⟩ := hB
    rw [ht] at hP1
    obtain ⟨hP, hD⟩ := va_join (wr := [(h2, .inr (6, [.int 0, .ref h13, .ref h14, .int 0, .int 5, .int 9, .int 0, .int 1, .int 0, .int 0, .ref h15, .ref h16, .int 0, .ref h17, .int 0, .ref h3, .int 0])), (h3, .inl (cI, 8, .inl (fun _ => 0)))]) (w1 := [(h0, .inr (9, [.ref h2, .ref h4, .ref h5, .int 0, .ref h6, .ref h7, .ref h8, .ref h9, .ref h10, .ref h11, .ref h12, .ref h1])), (h1, .inl (cI, 7, .inl (upd (fun _ => 0) (Int32.toNatClampNeg 4) 1)))]) hP hD [0, 1] [2, 3] rfl rfl (by decide) (by decide) hk1 hFc hP1 hD1
    generalize H1 = H at hP hS ⊢
    have hP : va_P D vwCl [(h2, .inr (6, [.int 0, .ref h13, .ref h14, .int 0, .int 5, .int 9, .int 0, .int 1, .int 0, .int 0, .ref h15, .ref h16, .int 0, .ref h17, .int 0, .ref h3, .int 0])), (h3, .inl (cI, 8, .inl (fun _ => 0))), (h0, .inr (9, [.ref h2, .ref h4, .ref h5, .int 0, .ref h6, .ref h7, .ref h8, .ref h9, .ref h10, .ref h11, .ref h12, .ref h1])), (h1, .inl (cI, 7, .inl (upd (fun _ => 0) (Int32.toNatClampNeg 4) 1)))] H := hP
    have hD : va_D A [(h2, .inr (6, [.int 0, .ref h13, .ref h14, .int 0, .int 5, .int 9, .int 0, .int 1, .int 0, .int 0, .ref h15, .ref h16, .int 0, .ref h17, .int 0, .ref h3, .int 0])), (h3, .inl (cI, 8, .inl (fun _ => 0))), (h0, .inr (9, [.ref h2, .ref h4, .ref h5, .int 0, .ref h6, .ref h7, .ref h8, .ref h9, .ref h10, .ref h11, .ref h12, .ref h1])), (h1, .inl (cI, 7, .inl (upd (fun _ => 0) (Int32.toNatClampNeg 4) 1)))] := hD
    have hw : r4 = (-4) := hw
    subst hw
    refine W.widen (k := 0) (n := 0) (Nat.le_of_ble_eq_true rfl) (Nat.le_of_ble_eq_true rfl) ?_
    exact W.iret (v := (-4)) hx hb hr (fun t ht hW => ⟨⟨(-4), (), rfl, (by rw [if_neg c1]), trivial⟩, hS.F ht⟩) hS.2.2 dX9_row_10
def sw_k_X6_rowIsOrder : List Cond := .code yX6_rowIsOrder cX6_rowIsOrder 4 (some .boolean) :: (([.fieldLink RX6 62 "TopTurned$Told" "rowCount" "I", .fieldLink RX6 40 "TopTurned$Told" "plates" "I"] : List Cond) ++ (wsX60 ++ (([] : List Cond))))
theorem gd_k_X6_rowIsOrder : ∀ w ∈ sw_k_X6_rowIsOrder, (w.onTables && w.keeps) = true ∨ ∃ ty, w = .arrayClass ty := List.forall_mem_cons.mpr ⟨good_of_word rfl, List.forall_mem_append.mpr ⟨fun w h => good_of_word (List.all_eq_true.mp (by decide +kernel : (([.fieldLink RX6 62 "TopTurned$Told" "rowCount" "I", .fieldLink RX6 40 "TopTurned$Told" "plates" "I"] : List Cond)).all goodWord = true) w h), List.forall_mem_append.mpr ⟨gw_X6, fun _ h => absurd h List.not_mem_nil⟩⟩⟩
theorem iw_k_X6_rowIsOrder_X6 : ∀ w ∈ wsX60, w ∈ sw_k_X6_rowIsOrder := fun _ h => List.mem_cons_of_mem _ (List.mem_append_right _ (List.mem_append_left _ h))
set_option maxHeartbeats 4000000 in
set_option maxRecDepth 100000 in
theorem k_X6_rowIsOrder (l : Launch) (D : va_G) (cC cI cZ : ClassId) (h0 h1 h2 h3 h4 h5 h6 : Nat) (sz : Nat) : Met l yX6_rowIsOrder sw_k_X6_rowIsOrder ({ frames := 2, cells := 0, slots := 0, locals := 100 }) (va_Pc [.ref h0] (kPre D cC cI cZ [(h0, .inr (6, [.int 0, .ref h1, .ref h2, .int 0, .int 5, .int 9, .int 0, .int 1, .int 0, .int 0, .ref h3, .ref h4, .int 0, .ref h5, .int 0, .ref h6, .int 0]))] sz)) (va_Qi (fun (r : Int32) (_ : Unit) => r = 1) (fun _ _ => True) (fun _ => False)) 0 0 (fun _ => False) := by
  refine Met.ofW (cc := cX6_rowIsOrder) (maxL := 4) (ret := (some .boolean)) (by decide) rfl ?_
  intro p e s m args below meth c s₁ B hml hv
  obtain ⟨rfl, hsz, hP, hK, hD0⟩ := hv
  have hx := B.exec
  have hb := B.bytes
  have hr := B.returns
  have hts := atoms_spec (ws := sw_k_X6_rowIsOrder) B.pre
  have hown : s.vm.findClass RX6 = some m.cls := findClass_of_methodNamed B.named
  have hlocks := B.notSynchronized
  subst hsz
  have hD := hD0
  have hS : va_S (fun _ => False) s.heap s.heap [] := va_S.rf
  have hl := lv_entry ([.ref h0]) (n := 4) (Nat.le_of_ble_eq_true rfl)
  rw [lg_entry_eq]
  generalize (lg_sl ([.ref h0]) ++ List.replicate (4 - (lg_sl ([.ref h0])).length) Slot.unset).toArray = ls at hl ⊢
  have hl : lv_has ls 4 [(0, .ref h0)] := hl
  refine lv_aload_n hx hb dX6_rowIsOrder_0 rfl (lv_at hl 0 rfl) ?_
  refine va_get (D := D) (ci := 6) (v := .int 0) (C := RX6) (T := TX6) (N := 17) hx hb hts iw_k_X6_rowIsOrder_X6 hown hK hP 0 rfl rfl 16 (by decide) (hts (.fieldLink RX6 62 "TopTurned$Told" "rowCount" "I") (by decide +kernel)) (fun _ h9 => h9) rfl dX6_rowIsOrder_1 ?_
  refine lv_aload_n hx hb dX6_rowIsOrder_4 rfl (lv_at hl 0 rfl) ?_
  refine va_get (D := D) (ci := 6) (v := .int 0) (C := RX6) (T := TX6) (N := 17) hx hb hts iw_k_X6_rowIsOrder_X6 hown hK hP 0 rfl rfl 0 (by decide) (hts (.fieldLink RX6 40 "TopTurned$Told" "plates" "I") (by decide +kernel)) (fun _ h9 => h9) rfl dX6_rowIsOrder_5 ?_
  refine lv_icmp_eq (tgt := 13) hx hb dX6_rowIsOrder_8 (by decide) (fun _ => ?_) (fun c => absurd (by decide) c)
  refine lv_iconst (v := 0) hx hb dX6_rowIsOrder_13 (by decide) ?_
  refine lv_istore_n (lv' := [(1, .int 0), (0, .ref h0)]) hx hb dX6_rowIsOrder_14 rfl hl (by decide) rfl (fun ls hl => ?_)
  refine lv_iconst (v := 0) hx hb dX6_rowIsOrder_15 (by decide) ?_
  refine lv_istore_n (lv' := [(2, .int 0), (1, .int 0), (0, .ref h0)]) hx hb dX6_rowIsOrder_16 rfl hl (by decide) rfl (fun ls hl => ?_)
  refine lv_iload_n hx hb dX6_rowIsOrder_17 rfl (lv_at hl 0 rfl) ?_
  refine lv_aload_n hx hb dX6_rowIsOrder_18 rfl (lv_at hl 2 rfl) ?_
  refine va_get (D := D) (ci := 6) (v := .int 0) (C := RX6) (T := TX6) (N := 17) hx hb hts iw_k_X6_rowIsOrder_X6 hown hK hP 0 rfl rfl 16 (by decide) (hts (.fieldLink RX6 62 "TopTurned$Told" "rowCount" "I") (by decide +kernel)) (fun _ h9 => h9) rfl dX6_rowIsOrder_19 ?_
  refine lv_icmp_ge (tgt := 77) hx hb dX6_rowIsOrder_22 (by decide) (fun _ => ?_) (fun c => absurd (by decide) c)
  refine lv_iconst (v := 1) hx hb dX6_rowIsOrder_77 (by decide) ?_
  exact W.zret (v := 1) hx hb hr rfl (fun t ht hW => ⟨⟨1, (), rfl, rfl, trivial⟩, hS.F ht⟩) hS.2.2 dX6_rowIsOrder_78
def sw_k_X8_fillFirst_1 : List Cond := .code yX8_fillFirst cX8_fillFirst 3 none :: (([.fieldLink RX8 9 "TopTurned$Walks" "space" "LTopTurned$Space;", .fieldLink RX8 48 "TopTurned$Space" "states" "I", .fieldLink RX8 33 "TopTurned$Walks" "first" "[I"] : List Cond) ++ (wsX80 ++ (wsX50 ++ (([] : List Cond)))))
theorem gd_k_X8_fillFirst_1 : ∀ w ∈ sw_k_X8_fillFirst_1, (w.onTables && w.keeps) = true ∨ ∃ ty, w = .arrayClass ty := List.forall_mem_cons.mpr ⟨good_of_word rfl, List.forall_mem_append.mpr ⟨fun w h => good_of_word (List.all_eq_true.mp (by decide +kernel : (([.fieldLink RX8 9 "TopTurned$Walks" "space" "LTopTurned$Space;", .fieldLink RX8 48 "TopTurned$Space" "states" "I", .fieldLink RX8 33 "TopTurned$Walks" "first" "[I"] : List Cond)).all goodWord = true) w h), List.forall_mem_append.mpr ⟨gw_X8, List.forall_mem_append.mpr ⟨gw_X5, fun _ h => absurd h List.not_mem_nil⟩⟩⟩⟩
theorem iw_k_X8_fillFirst_1_X8 : ∀ w ∈ wsX80, w ∈ sw_k_X8_fillFirst_1 := fun _ h => List.mem_cons_of_mem _ (List.mem_append_right _ (List.mem_append_left _ h))
theorem iw_k_X8_fillFirst_1_X5 : ∀ w ∈ wsX50, w ∈ sw_k_X8_fillFirst_1 := fun _ h => List.mem_cons_of_mem _ (List.mem_append_right _ (List.mem_append_right _ (List.mem_append_left _ h)))
set_option maxHeartbeats 4000000 in
set_option maxRecDepth 100000 in
theorem k_X8_fillFirst_1 (l : Launch) (D : va_G) (cC cI cZ : ClassId) (h0 h1 h2 h3 h4 h5 h6 h7 h8 h9 h10 h11 h12 : Nat) (sz : Nat) : Met l yX8_fillFirst sw_k_X8_fillFirst_1 ({ frames := 2, cells := 0, slots := 0, locals := 100 }) (va_Pc [.ref h0, .int (-1)] (kPre D cC cI cZ [(h0, .inr (8, [.ref h1, .ref h3, .ref h4, .ref h5, .ref h2, .ref h6])), (h1, .inr (5, [.int 0, .int 1, .int 1, .int 1, .int 0, .ref h7, .ref h8, .ref h9, .ref h10, .ref h11, .ref h12])), (h2, .inl (cI, 3840, .inl (fun _ => 0)))] sz)) (va_Qv (fun (_ : Unit) => True) (fun _ t => va_P D vwCl [(h0, .inr (8, [.ref h1, .ref h3, .ref h4, .ref h5, .ref h2, .ref h6])), (h1, .inr (5, [.int 0, .int 1, .int 1, .int 1, .int 0, .ref h7, .ref h8, .ref h9, .ref h10, .ref h11, .ref h12])), (h2, .inl (cI, 3840, .inl (upd (fun _ => 0) (Int32.toNatClampNeg 0) (-1))))] t.heap ∧ va_D (va_A [(h0, .inr (8, [.ref h1, .ref h3, .ref h4, .ref h5, .ref h2, .ref h6])), (h1, .inr (5, [.int 0, .int 1, .int 1, .int 1, .int 0, .ref h7, .ref h8, .ref h9, .ref h10, .ref h11, .ref h12])), (h2, .inl (cI, 3840, .inl (fun _ => 0)))] sz) [(h0, .inr (8, [.ref h1, .ref h3, .ref h4, .ref h5, .ref h2, .ref h6])), (h1, .inr (5, [.int 0, .int 1, .int 1, .int 1, .int 0, .ref h7, .ref h8, .ref h9, .ref h10, .ref h11, .ref h12])), (h2, .inl (cI, 3840, .inl (upd (fun _ => 0) (Int32.toNatClampNeg 0) (-1))))]) (va_A [(h0, .inr (8, [.ref h1, .ref h3, .ref h4, .ref h5, .ref h2, .ref h6])), (h1, .inr (5, [.int 0, .int 1, .int 1, .int 1, .int 0, .ref h7, .ref h8, .ref h9, .ref h10, .ref h11, .ref h12])), (h2, .inl (cI, 3840, .inl (fun _ => 0)))] sz)) 0 0 (va_A [(h0, .inr (8, [.ref h1, .ref h3, .ref h4, .ref h5, .ref h2, .ref h6])), (h1, .inr (5, [.int 0, .int 1, .int 1, .int 1, .int 0, .ref h7, .ref h8, .ref h9, .ref h10, .ref h11, .ref h12])), (h2, .inl (cI, 3840, .inl (fun _ => 0)))] sz) := by
  refine Met.ofW (cc := cX8_fillFirst) (maxL := 3) (ret := none) (by decide) rfl ?_
  intro p e s m args below meth c s₁ B hml hv
  obtain ⟨rfl, hsz, hP, hK, hD0⟩ := hv
  have hx := B.exec
  have hb := B.bytes
  have hr := B.returns
  have hts := atoms_spec (ws := sw_k_X8_fillFirst_1) B.pre
  have hown : s.vm.findClass RX8 = some m.cls := findClass_of_methodNamed B.named
  have hlocks := B.notSynchronized
  subst hsz
  have hD := hD0.self (sz := s.heap.size)
  generalize hAe : va_A [(h0, .inr (8, [.ref h1, .ref h3, .ref h4, .ref h5, .ref h2, .ref h6])), (h1, .inr (5, [.int 0, .int 1, .int 1, .int 1, .int 0, .ref h7, .ref h8, .ref h9, .ref h10, .ref h11, .ref h12])), (h2, .inl (cI, 3840, .inl (fun _ => 0)))] s.heap.size = A at hD ⊢
  have hA : ∀ q : Nat, s.heap.size ≤ q → A q := fun q h => by rw [← hAe]; exact Or.inr h
  have hS : va_S A s.heap s.heap [] := va_S.rf
  have hl := lv_entry ([.ref h0, .int (-1)]) (n := 3) (Nat.le_of_ble_eq_true rfl)
  rw [lg_entry_eq]
  generalize (lg_sl ([.ref h0, .int (-1)]) ++ List.replicate (3 - (lg_sl ([.ref h0, .int (-1)])).length) Slot.unset).toArray = ls at hl ⊢
  have hl : lv_has ls 3 [(0, .ref h0), (1, .int (-1))] := hl
  refine lv_iconst (v := 0) hx hb dX8_fillFirst_0 (by decide) ?_
  refine lv_istore_n (lv' := [(2, .int 0), (0, .ref h0), (1, .int (-1))]) hx hb dX8_fillFirst_1 rfl hl (by decide) rfl (fun ls hl => ?_)
  refine lv_iload_n hx hb dX8_fillFirst_2 rfl (lv_at hl 0 rfl) ?_
  refine lv_aload_n hx hb dX8_fillFirst_3 rfl (lv_at hl 1 rfl) ?_
  refine va_get (D := D) (ci := 8) (v := .ref h1) (C := RX8) (T := TX8) (N := 6) hx hb hts iw_k_X8_fillFirst_1_X8 hown hK hP 0 rfl rfl 0 (by decide) (hts (.fieldLink RX8 9 "TopTurned$Walks" "space" "LTopTurned$Space;") (by decide +kernel)) (fun _ h9 => h9) rfl dX8_fillFirst_4 ?_
  refine va_get (D := D) (ci := 5) (v := .int 1) (C := RX5) (T := TX5) (N := 11) hx hb hts iw_k_X8_fillFirst_1_X5 hown hK hP 1 rfl rfl 3 (by decide) (hts (.fieldLink RX8 48 "TopTurned$Space" "states" "I") (by decide +kernel)) (fun _ h9 => h9) rfl dX8_fillFirst_7 ?_
  refine lv_icmp_ge (tgt := 26) hx hb dX8_fillFirst_10 (by decide) (fun c => absurd c (by decide)) (fun _ => ?_)
  refine lv_aload_n hx hb dX8_fillFirst_13 rfl (lv_at hl 1 rfl) ?_
  refine va_get (D := D) (ci := 8) (v := .ref h2) (C := RX8) (T := TX8) (N := 6) hx hb hts iw_k_X8_fillFirst_1_X8 hown hK hP 0 rfl rfl 4 (by decide) (hts (.fieldLink RX8 33 "TopTurned$Walks" "first" "[I") (by decide +kernel)) (fun _ h9 => h9) rfl dX8_fillFirst_14 ?_
  refine lv_iload_n hx hb dX8_fillFirst_17 rfl (lv_at hl 0 rfl) ?_
  refine lv_iload_n hx hb dX8_fillFirst_18 rfl (lv_at hl 2 rfl) ?_
  refine va_iast (i := 0) (x := (-1)) hx hb hK hP hD hS 2 1 rfl rfl (vp_in_iff.mpr (by decide)) dX8_fillFirst_19 (fun H locs hP hD hS => ?_)
  have hP : va_P D vwCl [(h0, .inr (8, [.ref h1, .ref h3, .ref h4, .ref h5, .ref h2, .ref h6])), (h1, .inr (5, [.int 0, .int 1, .int 1, .int 1, .int 0, .ref h7, .ref h8, .ref h9, .ref h10, .ref h11, .ref h12])), (h2, .inl (cI, 3840, .inl (upd (fun _ => 0) (Int32.toNatClampNeg 0) (-1))))] H := hP
  have hD : va_D A [(h0, .inr (8, [.ref h1, .ref h3, .ref h4, .ref h5, .ref h2, .ref h6])), (h1, .inr (5, [.int 0, .int 1, .int 1, .int 1, .int 0, .ref h7, .ref h8, .ref h9, .ref h10, .ref h11, .ref h12])), (h2, .inl (cI, 3840, .inl (upd (fun _ => 0) (Int32.toNatClampNeg 0) (-1))))] := hD
  refine lv_iinc (v := 1) (lv' := [(2, .int 1), (0, .ref h0), (1, .int (-1))]) hx hb dX8_fillFirst_20 hl (k := 0) rfl (by decide) (by decide) rfl (fun ls hl => ?_)
  refine lv_goto (tgt := 2) hx hb dX8_fillFirst_23 (by decide) ?_
  refine lv_iload_n hx hb dX8_fillFirst_2 rfl (lv_at hl 0 rfl) ?_
  refine lv_aload_n hx hb dX8_fillFirst_3 rfl (lv_at hl 1 rfl) ?_
  refine va_get (D := D) (ci := 8) (v := .ref h1) (C := RX8) (T := TX8) (N := 6) hx hb hts iw_k_X8_fillFirst_1_X8 hown hK hP 0 rfl rfl 0 (by decide) (hts (.fieldLink RX8 9 "TopTurned$Walks" "space" "LTopTurned$Space;") (by decide +kernel)) (fun _ h9 => h9) rfl dX8_fillFirst_4 ?_
  refine va_get (D := D) (ci := 5) (v := .int 1) (C := RX5) (T := TX5) (N := 11) hx hb hts iw_k_X8_fillFirst_1_X5 hown hK hP 1 rfl rfl 3 (by decide) (hts (.fieldLink RX8 48 "TopTurned$Space" "states" "I") (by decide +kernel)) (fun _ h9 => h9) rfl dX8_fillFirst_7 ?_
  refine lv_icmp_ge (tgt := 26) hx hb dX8_fillFirst_10 (by decide) (fun _ => ?_) (fun c => absurd (by decide) c)
  refine W.widen (k := 0) (n := 0) (Nat.le_of_ble_eq_true rfl) (Nat.le_of_ble_eq_true rfl) ?_
  have hP9 := hP.sub (ws' := [(h0, .inr (8, [.ref h1, .ref h3, .ref h4, .ref h5, .ref h2, .ref h6])), (h1, .inr (5, [.int 0, .int 1, .int 1, .int 1, .int 0, .ref h7, .ref h8, .ref h9, .ref h10, .ref h11, .ref h12])), (h2, .inl (cI, 3840, .inl (upd (fun _ => 0) (Int32.toNatClampNeg 0) (-1))))]) [0, 1, 2] rfl
  have hD9 := hD.sub (ws' := [(h0, .inr (8, [.ref h1, .ref h3, .ref h4, .ref h5, .ref h2, .ref h6])), (h1, .inr (5, [.int 0, .int 1, .int 1, .int 1, .int 0, .ref h7, .ref h8, .ref h9, .ref h10, .ref h11, .ref h12])), (h2, .inl (cI, 3840, .inl (upd (fun _ => 0) (Int32.toNatClampNeg 0) (-1))))]) [0, 1, 2] (by decide) rfl
  exact W.vret hx hb hr (fun t ht hW => ⟨⟨(), rfl, trivial, ⟨by rw [ht]; exact hP9, hD9⟩⟩, hS.F ht⟩) hS.2.2 dX8_fillFirst_26
def sw_k_X1_flood_1 : List Cond := .code yX1_flood cX1_flood 10 none :: (([.fieldLink RX1 34 "TopTurned$Chart" "queue" "[I", .fieldLink RX1 21 "TopTurned$Chart" "space" "LTopTurned$Space;", .methodLink RX1 70 yX5_orderIn, .instanceMethod yX5_orderIn, .selects RX5 yX5_orderIn yX5_orderIn, .initialized RX5, .fieldLink RX1 74 "TopTurned$Space" "turns" "I"] : List Cond) ++ (wsX10 ++ (sw_k_X5_orderIn ++ (wsX50 ++ (([] : List Cond))))))
theorem gd_k_X1_flood_1 : ∀ w ∈ sw_k_X1_flood_1, (w.onTables && w.keeps) = true ∨ ∃ ty, w = .arrayClass ty := List.forall_mem_cons.mpr ⟨good_of_word rfl, List.forall_mem_append.mpr ⟨fun w h => good_of_word (List.all_eq_true.mp (by decide +kernel : (([.fieldLink RX1 34 "TopTurned$Chart" "queue" "[I", .fieldLink RX1 21 "TopTurned$Chart" "space" "LTopTurned$Space;", .methodLink RX1 70 yX5_orderIn, .instanceMethod yX5_orderIn, .selects RX5 yX5_orderIn yX5_orderIn, .initialized RX5, .fieldLink RX1 74 "TopTurned$Space" "turns" "I"] : List Cond)).all goodWord = true) w h), List.forall_mem_append.mpr ⟨gw_X1, List.forall_mem_append.mpr ⟨gd_k_X5_orderIn, List.forall_mem_append.mpr ⟨gw_X5, fun _ h => absurd h List.not_mem_nil⟩⟩⟩⟩⟩
theorem iw_k_X1_flood_1_X1 : ∀ w ∈ wsX10, w ∈ sw_k_X1_flood_1 := fun _ h => List.mem_cons_of_mem _ (List.mem_append_right _ (List.mem_append_left _ h))
theorem gc_k_X1_flood_1_k_X5_orderIn : GoodIn sw_k_X1_flood_1 sw_k_X5_orderIn := fun w h => ⟨List.mem_cons_of_mem _ (List.mem_append_right _ (List.mem_append_right _ (List.mem_append_left _ h))), gd_k_X5_orderIn w h⟩
theorem iw_k_X1_flood_1_X5 : ∀ w ∈ wsX50, w ∈ sw_k_X1_flood_1 := fun _ h => List.mem_cons_of_mem _ (List.mem_append_right _ (List.mem_append_right _ (List.mem_append_right _ (List.mem_append_left _ h))))
set_option maxHeartbeats 4000000 in
set_option maxRecDepth 100000 in
theorem k_X1_flood_1 (l : Launch) (D : va_G) (cC cI cZ : ClassId) (h0 h1 h2 h3 h4 h5 h6 h7 h8 h9 h10 h11 h12 h13 h14 : Nat) (sz : Nat) : Met l yX1_flood sw_k_X1_flood_1 ({ frames := 4, cells := 0, slots := 0, locals := 200 }) (va_Pc [.ref h0, .ref h1, .ref h2, .int 1] (kPre D cC cI cZ [(h0, .inr (1, [.ref h4, .ref h5, .ref h3, .ref h1, .ref h6, .ref h7, .ref h8, .int 0, .int 0])), (h3, .inl (cI, 3840, .inl (fun _ => 0))), (h4, .inr (5, [.int 0, .int 1, .int 1, .int 1, .int 0, .ref h9, .ref h10, .ref h11, .ref h12, .ref h13, .ref h14]))] sz)) (va_Qv (fun (_ : Unit) => True) (fun _ _ => True) (fun _ => False)) 0 0 (fun _ => False) := by
  refine Met.ofW (cc := cX1_flood) (maxL := 10) (ret := none) (by decide) rfl ?_
  intro p e s m args below meth c s₁ B hml hv
  obtain ⟨rfl, hsz, hP, hK, hD0⟩ := hv
  have hx := B.exec
  have hb := B.bytes
  have hr := B.returns
  have hts := atoms_spec (ws := sw_k_X1_flood_1) B.pre
  have hown : s.vm.findClass RX1 = some m.cls := findClass_of_methodNamed B.named
  have hlocks := B.notSynchronized
  subst hsz
  have hD := hD0
  have hS : va_S (fun _ => False) s.heap s.heap [] := va_S.rf
  have hl := lv_entry ([.ref h0, .ref h1, .ref h2, .int 1]) (n := 10) (Nat.le_of_ble_eq_true rfl)
  rw [lg_entry_eq]
  generalize (lg_sl ([.ref h0, .ref h1, .ref h2, .int 1]) ++ List.replicate (10 - (lg_sl ([.ref h0, .ref h1, .ref h2, .int 1])).length) Slot.unset).toArray = ls at hl ⊢
  have hl : lv_has ls 10 [(0, .ref h0), (1, .ref h1), (2, .ref h2), (3, .int 1)] := hl
  refine lv_iload_n hx hb dX1_flood_0 rfl (lv_at hl 3 rfl) ?_
  refine lv_istore (lv' := [(4, .int 1), (0, .ref h0), (1, .ref h1), (2, .ref h2), (3, .int 1)]) hx hb dX1_flood_1 hl (by decide) rfl (fun ls hl => ?_)
  refine lv_iconst (v := 0) hx hb dX1_flood_3 (by decide) ?_
  refine lv_istore (lv' := [(5, .int 0), (4, .int 1), (0, .ref h0), (1, .ref h1), (2, .ref h2), (3, .int 1)]) hx hb dX1_flood_4 hl (by decide) rfl (fun ls hl => ?_)
  refine lv_iload hx hb dX1_flood_6 (lv_at hl 0 rfl) ?_
  refine lv_iload hx hb dX1_flood_8 (lv_at hl 1 rfl) ?_
  refine lv_icmp_ge (tgt := 164) hx hb dX1_flood_10 (by decide) (fun c => absurd c (by decide)) (fun _ => ?_)
  refine lv_iload hx hb dX1_flood_13 (lv_at hl 0 rfl) ?_
  refine lv_sipush (v := 3840) hx hb dX1_flood_15 (by decide) ?_
  refine lv_icmp_ge (tgt := 164) hx hb dX1_flood_18 (by decide) (fun c => absurd c (by decide)) (fun _ => ?_)
  refine lv_aload_n hx hb dX1_flood_21 rfl (lv_at hl 2 rfl) ?_
  refine va_get (D := D) (ci := 1) (v := .ref h3) (C := RX1) (T := TX1) (N := 9) hx hb hts iw_k_X1_flood_1_X1 hown hK hP 0 rfl rfl 2 (by decide) (hts (.fieldLink RX1 34 "TopTurned$Chart" "queue" "[I") (by decide +kernel)) (fun _ h9 => h9) rfl dX1_flood_22 ?_
  refine lv_iload hx hb dX1_flood_25 (lv_at hl 0 rfl) ?_
  refine va_iald (i := 0) hx hb hK hP 1 1 rfl rfl (vp_in_iff.mpr (by decide)) dX1_flood_27 ?_
  refine kt_eq (y := 0) (by decide +kernel) ?_
  refine lv_istore (lv' := [(6, .int 0), (5, .int 0), (4, .int 1), (0, .ref h0), (1, .ref h1), (2, .ref h2), (3, .int 1)]) hx hb dX1_flood_28 hl (by decide) rfl (fun ls hl => ?_)
  refine lv_aload_n hx hb dX1_flood_30 rfl (lv_at hl 3 rfl) ?_
  refine va_get (D := D) (ci := 1) (v := .ref h4) (C := RX1) (T := TX1) (N := 9) hx hb hts iw_k_X1_flood_1_X1 hown hK hP 0 rfl rfl 0 (by decide) (hts (.fieldLink RX1 21 "TopTurned$Chart" "space" "LTopTurned$Space;") (by decide +kernel)) (fun _ h9 => h9) rfl dX1_flood_31 ?_
  refine lv_iload hx hb dX1_flood_34 (lv_at hl 0 rfl) ?_
  have hPc := hP.sub (ws' := [(h4, .inr (5, [.int 0, .int 1, .int 1, .int 1, .int 0, .ref h9, .ref h10, .ref h11, .ref h12, .ref h13, .ref h14]))]) [2] rfl
  have hDc := hD.sub (ws' := [(h4, .inr (5, [.int 0, .int 1, .int 1, .int 1, .int 0, .ref h9, .ref h10, .ref h11, .ref h12, .ref h13, .ref h14]))]) [2] (by decide) rfl
  refine va_calli (va_runV (As := [.int 0]) (rest := []) ⟨hx, hb, hml, hown, hts⟩ (k_X5_orderIn l D cC cI cZ h4 h9 h10 h11 h12 h13 h14 s.heap.size ) (cwV (C := RX5) 1 hts (goodIn_app (goodIn_of _ (by decide +kernel)) gc_k_X1_flood_1_k_X5_orderIn) rfl rfl rfl (by decide +kernel) ⟨(Nat.le_of_ble_eq_true rfl), (Nat.le_of_ble_eq_true rfl)⟩) (kPreV hK hPc hDc (va_recv hK hPc (ci := 5) (q0 := 0) rfl rfl)) rfl rfl hl.1 rfl (lv_room (Nat.le_of_ble_eq_true rfl)) dX1_flood_36 ⟨(Nat.le_of_ble_eq_true rfl), (Nat.le_of_ble_eq_true rfl)⟩) hS (fun q _ h => False.elim h) (fun q h => False.elim h) (fun r1 u t H1 locs ht hvm hw hB hz1 hk1 hS => ?_)
  have hP := hP.kept (H1 := H1) (fun k q hk => hk1 q.1 (hP k q hk).lt (fun h => h))
  generalize H1 = H at hP hS ⊢
  have hw : r1 = 0 := hw
  subst hw
  refine lv_istore (lv' := [(7, .int 0), (6, .int 0), (5, .int 0), (4, .int 1), (0, .ref h0), (1, .ref h1), (2, .ref h2), (3, .int 1)]) hx hb dX1_flood_39 hl (by decide) rfl (fun ls hl => ?_)
  refine lv_iconst (v := 0) hx hb dX1_flood_41 (by decide) ?_
  refine lv_istore (lv' := [(8, .int 0), (7, .int 0), (6, .int 0), (5, .int 0), (4, .int 1), (0, .ref h0), (1, .ref h1), (2, .ref h2), (3, .int 1)]) hx hb dX1_flood_42 hl (by decide) rfl (fun ls hl => ?_)
  refine lv_iload hx hb dX1_flood_44 (lv_at hl 0 rfl) ?_
  refine lv_aload_n hx hb dX1_flood_46 rfl (lv_at hl 5 rfl) ?_
  refine va_get (D := D) (ci := 1) (v := .ref h4) (C := RX1) (T := TX1) (N := 9) hx hb hts iw_k_X1_flood_1_X1 hown hK hP 0 rfl rfl 0 (by decide) (hts (.fieldLink RX1 21 "TopTurned$Chart" "space" "LTopTurned$Space;") (by decide +kernel)) (fun _ h9 => h9) rfl dX1_flood_47 ?_
  refine va_get (D := D) (ci := 5) (v := .int 0) (C := RX5) (T := TX5) (N := 11) hx hb hts iw_k_X1_flood_1_X5 hown hK hP 2 rfl rfl 4 (by decide) (hts (.fieldLink RX1 74 "TopTurned$Space" "turns" "I") (by decide +kernel)) (fun _ h9 => h9) rfl dX1_flood_50 ?_
  refine lv_icmp_ge (tgt := 158) hx hb dX1_flood_53 (by decide) (fun _ => ?_) (fun c => absurd (by decide) c)
  refine lv_iinc (v := 1) (lv' := [(5, .int 1), (8, .int 0), (7, .int 0), (6, .int 0), (4, .int 1), (0, .ref h0), (1, .ref h1), (2, .ref h2), (3, .int 1)]) hx hb dX1_flood_158 hl (k := 3) rfl (by decide) (by decide) rfl (fun ls hl => ?_)
  refine lv_goto (tgt := 6) hx hb dX1_flood_161 (by decide) ?_
  refine lv_iload hx hb dX1_flood_6 (lv_at hl 0 rfl) ?_
  refine lv_iload hx hb dX1_flood_8 (lv_at hl 4 rfl) ?_
  refine lv_icmp_ge (tgt := 164) hx hb dX1_flood_10 (by decide) (fun _ => ?_) (fun c => absurd (by decide) c)
  exact W.vret hx hb hr (fun t ht hW => ⟨⟨(), rfl, trivial, trivial⟩, hS.F ht⟩) hS.2.2 dX1_flood_164
def sw_k_X8_turnsBetween : List Cond := .code yX8_turnsBetween cX8_turnsBetween 3 (some .int) :: (([.methodLink RX8 38 yX8_fillFirst, .instanceMethod yX8_fillFirst, .selects RX8 yX8_fillFirst yX8_fillFirst, .initialized RX8, .fieldLink RX8 33 "TopTurned$Walks" "first" "[I", .fieldLink RX8 37 "TopTurned$Walks" "second" "[I", .fieldLink RX8 29 "TopTurned$Walks" "queue" "[I", .fieldLink RX8 19 "TopTurned$Walks" "chart" "LTopTurned$Chart;", .methodLink RX8 42 yX1_flood, .instanceMethod yX1_flood, .selects RX1 yX1_flood yX1_flood, .initialized RX1] : List Cond) ++ (sw_k_X8_fillFirst_1 ++ (wsX80 ++ (sw_k_X1_flood_1 ++ (([] : List Cond))))))
theorem gd_k_X8_turnsBetween : ∀ w ∈ sw_k_X8_turnsBetween, (w.onTables && w.keeps) = true ∨ ∃ ty, w = .arrayClass ty := List.forall_mem_cons.mpr ⟨good_of_word rfl, List.forall_mem_append.mpr ⟨fun w h => good_of_word (List.all_eq_true.mp (by decide +kernel : (([.methodLink RX8 38 yX8_fillFirst, .instanceMethod yX8_fillFirst, .selects RX8 yX8_fillFirst yX8_fillFirst, .initialized RX8, .fieldLink RX8 33 "TopTurned$Walks" "first" "[I", .fieldLink RX8 37 "TopTurned$Walks" "second" "[I", .fieldLink RX8 29 "TopTurned$Walks" "queue" "[I", .fieldLink RX8 19 "TopTurned$Walks" "chart" "LTopTurned$Chart;", .methodLink RX8 42 yX1_flood, .instanceMethod yX1_flood, .selects RX1 yX1_flood yX1_flood, .initialized RX1] : List Cond)).all goodWord = true) w h), List.forall_mem_append.mpr ⟨gd_k_X8_fillFirst_1, List.forall_mem_append.mpr ⟨gw_X8, List.forall_mem_append.mpr ⟨gd_k_X1_flood_1, fun _ h => absurd h List.not_mem_nil⟩⟩⟩⟩⟩
theorem gc_k_X8_turnsBetween_k_X8_fillFirst_1 : GoodIn sw_k_X8_turnsBetween sw_k_X8_fillFirst_1 := fun w h => ⟨List.mem_cons_of_mem _ (List.mem_append_right _ (List.mem_append_left _ h)), gd_k_X8_fillFirst_1 w h⟩
theorem iw_k_X8_turnsBetween_X8 : ∀ w ∈ wsX80, w ∈ sw_k_X8_turnsBetween := fun _ h => List.mem_cons_of_mem _ (List.mem_append_right _ (List.mem_append_right _ (List.mem_append_left _ h)))
theorem gc_k_X8_turnsBetween_k_X1_flood_1 : GoodIn sw_k_X8_turnsBetween sw_k_X1_flood_1 := fun w h => ⟨List.mem_cons_of_mem _ (List.mem_append_right _ (List.mem_append_right _ (List.mem_append_right _ (List.mem_append_left _ h)))), gd_k_X1_flood_1 w h⟩
set_option maxHeartbeats 4000000 in
set_option maxRecDepth 100000 in
theorem k_X8_turnsBetween (l : Launch) (D : va_G) (cC cI cZ : ClassId) (h0 h1 h2 h3 h4 h5 h6 h7 h8 h9 h10 h11 h12 h13 h14 h15 : Nat) (sz : Nat) : Met l yX8_turnsBetween sw_k_X8_turnsBetween ({ frames := 6, cells := 0, slots := 0, locals := 300 }) (va_Pc [.ref h0, .int 0, .int 0] (kPre D cC cI cZ [(h0, .inr (8, [.ref h1, .ref h6, .ref h5, .ref h4, .ref h2, .ref h3])), (h1, .inr (5, [.int 0, .int 1, .int 1, .int 1, .int 0, .ref h7, .ref h8, .ref h9, .ref h10, .ref h11, .ref h12])), (h2, .inl (cI, 3840, .inl (fun _ => 0))), (h3, .inl (cI, 3840, .inl (fun _ => 0))), (h4, .inl (cI, 3840, .inl (fun _ => 0))), (h5, .inr (1, [.ref h1, .ref h6, .ref h4, .ref h2, .ref h13, .ref h14, .ref h15, .int 0, .int 0]))] sz)) (va_Qi (fun (r : Int32) (_ : Unit) => r = 0) (fun _ t => va_P D vwCl [(h3, .inl (cI, 3840, .inl (upd (fun _ => 0) (Int32.toNatClampNeg 0) 1))), (h4, .inl (cI, 3840, .inl (fun _ => 0))), (h5, .inr (1, [.ref h1, .ref h6, .ref h4, .ref h2, .ref h13, .ref h14, .ref h15, .int 0, .int 0])), (h0, .inr (8, [.ref h1, .ref h6, .ref h5, .ref h4, .ref h2, .ref h3])), (h1, .inr (5, [.int 0, .int 1, .int 1, .int 1, .int 0, .ref h7, .ref h8, .ref h9, .ref h10, .ref h11, .ref h12])), (h2, .inl (cI, 3840, .inl (upd (upd (fun _ => 0) (Int32.toNatClampNeg 0) (-1)) (Int32.toNatClampNeg 0) 0)))] t.heap ∧ va_D (va_A [(h0, .inr (8, [.ref h1, .ref h6, .ref h5, .ref h4, .ref h2, .ref h3])), (h1, .inr (5, [.int 0, .int 1, .int 1, .int 1, .int 0, .ref h7, .ref h8, .ref h9, .ref h10, .ref h11, .ref h12])), (h2, .inl (cI, 3840, .inl (fun _ => 0))), (h3, .inl (cI, 3840, .inl (fun _ => 0))), (h4, .inl (cI, 3840, .inl (fun _ => 0))), (h5, .inr (1, [.ref h1, .ref h6, .ref h4, .ref h2, .ref h13, .ref h14, .ref h15, .int 0, .int 0]))] sz) [(h3, .inl (cI, 3840, .inl (upd (fun _ => 0) (Int32.toNatClampNeg 0) 1))), (h4, .inl (cI, 3840, .inl (fun _ => 0))), (h5, .inr (1, [.ref h1, .ref h6, .ref h4, .ref h2, .ref h13, .ref h14, .ref h15, .int 0, .int 0])), (h0, .inr (8, [.ref h1, .ref h6, .ref h5, .ref h4, .ref h2, .ref h3])), (h1, .inr (5, [.int 0, .int 1, .int 1, .int 1, .int 0, .ref h7, .ref h8, .ref h9, .ref h10, .ref h11, .ref h12])), (h2, .inl (cI, 3840, .inl (upd (upd (fun _ => 0) (Int32.toNatClampNeg 0) (-1)) (Int32.toNatClampNeg 0) 0)))]) (va_A [(h0, .inr (8, [.ref h1, .ref h6, .ref h5, .ref h4, .ref h2, .ref h3])), (h1, .inr (5, [.int 0, .int 1, .int 1, .int 1, .int 0, .ref h7, .ref h8, .ref h9, .ref h10, .ref h11, .ref h12])), (h2, .inl (cI, 3840, .inl (fun _ => 0))), (h3, .inl (cI, 3840, .inl (fun _ => 0))), (h4, .inl (cI, 3840, .inl (fun _ => 0))), (h5, .inr (1, [.ref h1, .ref h6, .ref h4, .ref h2, .ref h13, .ref h14, .ref h15, .int 0, .int 0]))] sz)) 0 0 (va_A [(h0, .inr (8, [.ref h1, .ref h6, .ref h5, .ref h4, .ref h2, .ref h3])), (h1, .inr (5, [.int 0, .int 1, .int 1, .int 1, .int 0, .ref h7, .ref h8, .ref h9, .ref h10, .ref h11, .ref h12])), (h2, .inl (cI, 3840, .inl (fun _ => 0))), (h3, .inl (cI, 3840, .inl (fun _ => 0))), (h4, .inl (cI, 3840, .inl (fun _ => 0))), (h5, .inr (1, [.ref h1, .ref h6, .ref h4, .ref h2, .ref h13, .ref h14, .ref h15, .int 0, .int 0]))] sz) := by
  refine Met.ofW (cc := cX8_turnsBetween) (maxL := 3) (ret := (some .int)) (by decide) rfl ?_
  intro p e s m args below meth c s₁ B hml hv
  obtain ⟨rfl, hsz, hP, hK, hD0⟩ := hv
  have hx := B.exec
  have hb := B.bytes
  have hr := B.returns
  have hts := atoms_spec (ws := sw_k_X8_turnsBetween) B.pre
  have hown : s.vm.findClass RX8 = some m.cls := findClass_of_methodNamed B.named
  have hlocks := B.notSynchronized
  subst hsz
  have hD := hD0.self (sz := s.heap.size)
  generalize hAe : va_A [(h0, .inr (8, [.ref h1, .ref h6, .ref h5, .ref h4, .ref h2, .ref h3])), (h1, .inr (5, [.int 0, .int 1, .int 1, .int 1, .int 0, .ref h7, .ref h8, .ref h9, .ref h10, .ref h11, .ref h12])), (h2, .inl (cI, 3840, .inl (fun _ => 0))), (h3, .inl (cI, 3840, .inl (fun _ => 0))), (h4, .inl (cI, 3840, .inl (fun _ => 0))), (h5, .inr (1, [.ref h1, .ref h6, .ref h4, .ref h2, .ref h13, .ref h14, .ref h15, .int 0, .int 0]))] s.heap.size = A at hD ⊢
  have hA : ∀ q : Nat, s.heap.size ≤ q → A q := fun q h => by rw [← hAe]; exact Or.inr h
  have hS : va_S A s.heap s.heap [] := va_S.rf
  have hl := lv_entry ([.ref h0, .int 0, .int 0]) (n := 3) (Nat.le_of_ble_eq_true rfl)
  rw [lg_entry_eq]
  generalize (lg_sl ([.ref h0, .int 0, .int 0]) ++ List.replicate (3 - (lg_sl ([.ref h0, .int 0, .int 0])).length) Slot.unset).toArray = ls at hl ⊢
  have hl : lv_has ls 3 [(0, .ref h0), (1, .int 0), (2, .int 0)] := hl
  refine lv_aload_n hx hb dX8_turnsBetween_0 rfl (lv_at hl 0 rfl) ?_
  refine lv_iconst (v := (-1)) hx hb dX8_turnsBetween_1 (by decide) ?_
  have hPc := hP.sub (ws' := [(h0, .inr (8, [.ref h1, .ref h6, .ref h5, .ref h4, .ref h2, .ref h3])), (h1, .inr (5, [.int 0, .int 1, .int 1, .int 1, .int 0, .ref h7, .ref h8, .ref h9, .ref h10, .ref h11, .ref h12])), (h2, .inl (cI, 3840, .inl (fun _ => 0)))]) [0, 1, 2] rfl
  have hDc := hD.sub (ws' := [(h0, .inr (8, [.ref h1, .ref h6, .ref h5, .ref h4, .ref h2, .ref h3])), (h1, .inr (5, [.int 0, .int 1, .int 1, .int 1, .int 0, .ref h7, .ref h8, .ref h9, .ref h10, .ref h11, .ref h12])), (h2, .inl (cI, 3840, .inl (fun _ => 0)))]) [0, 1, 2] (by decide) rfl
  have hFc := va_free (wc := [(h0, .inr (8, [.ref h1, .ref h6, .ref h5, .ref h4, .ref h2, .ref h3])), (h1, .inr (5, [.int 0, .int 1, .int 1, .int 1, .int 0, .ref h7, .ref h8, .ref h9, .ref h10, .ref h11, .ref h12])), (h2, .inl (cI, 3840, .inl (fun _ => 0)))]) hD hS hA [0, 1, 2] rfl
  refine va_callv (va_runV (As := [.int (-1)]) (rest := []) ⟨hx, hb, hml, hown, hts⟩ (k_X8_fillFirst_1 l D cC cI cZ h0 h1 h2 h6 h5 h4 h3 h7 h8 h9 h10 h11 h12 s.heap.size ) (cwV (C := RX8) 1 hts (goodIn_app (goodIn_of _ (by decide +kernel)) gc_k_X8_turnsBetween_k_X8_fillFirst_1) rfl rfl rfl (by decide +kernel) ⟨(Nat.le_of_ble_eq_true rfl), (Nat.le_of_ble_eq_true rfl)⟩) (kPreV hK hPc hDc (va_recv hK hPc (ci := 8) (q0 := 0) rfl rfl)) rfl rfl hl.1 rfl (lv_room (Nat.le_of_ble_eq_true rfl)) dX8_turnsBetween_2 ⟨(Nat.le_of_ble_eq_true rfl), (Nat.le_of_ble_eq_true rfl)⟩) hS (fun q _ h => hFc q h) hFc (fun u t H1 locs ht hvm hw hB hz1 hk1 hS => ?_)
  obtain ⟨hP1, hD1⟩ := hB
  rw [ht] at hP1
  obtain ⟨hP, hD⟩ := va_join (wr := [(h3, .inl (cI, 3840, .inl (fun _ => 0))), (h4, .inl (cI, 3840, .inl (fun _ => 0))), (h5, .inr (1, [.ref h1, .ref h6, .ref h4, .ref h2, .ref h13, .ref h14, .ref h15, .int 0, .int 0]))]) (w1 := [(h0, .inr (8, [.ref h1, .ref h6, .ref h5, .ref h4, .ref h2, .ref h3])), (h1, .inr (5, [.int 0, .int 1, .int 1, .int 1, .int 0, .ref h7, .ref h8, .ref h9, .ref h10, .ref h11, .ref h12])), (h2, .inl (cI, 3840, .inl (upd (fun _ => 0) (Int32.toNatClampNeg 0) (-1))))]) hP hD [0, 1, 2] [3, 4, 5] rfl rfl (by decide) (by decide) hk1 hFc hP1 hD1
  generalize H1 = H at hP hS ⊢
  have hP : va_P D vwCl [(h3, .inl (cI, 3840, .inl (fun _ => 0))), (h4, .inl (cI, 3840, .inl (fun _ => 0))), (h5, .inr (1, [.ref h1, .ref h6, .ref h4, .ref h2, .ref h13, .ref h14, .ref h15, .int 0, .int 0])), (h0, .inr (8, [.ref h1, .ref h6, .ref h5, .ref h4, .ref h2, .ref h3])), (h1, .inr (5, [.int 0, .int 1, .int 1, .int 1, .int 0, .ref h7, .ref h8, .ref h9, .ref h10, .ref h11, .ref h12])), (h2, .inl (cI, 3840, .inl (upd (fun _ => 0) (Int32.toNatClampNeg 0) (-1))))] H := hP
  have hD : va_D A [(h3, .inl (cI, 3840, .inl (fun _ => 0))), (h4, .inl (cI, 3840, .inl (fun _ => 0))), (h5, .inr (1, [.ref h1, .ref h6, .ref h4, .ref h2, .ref h13, .ref h14, .ref h15, .int 0, .int 0])), (h0, .inr (8, [.ref h1, .ref h6, .ref h5, .ref h4, .ref h2, .ref h3])), (h1, .inr (5, [.int 0, .int 1, .int 1, .int 1, .int 0, .ref h7, .ref h8, .ref h9, .ref h10, .ref h11, .ref h12])), (h2, .inl (cI, 3840, .inl (upd (fun _ => 0) (Int32.toNatClampNeg 0) (-1))))] := hD
  refine lv_aload_n hx hb dX8_turnsBetween_5 rfl (lv_at hl 0 rfl) ?_
  refine va_get (D := D) (ci := 8) (v := .ref h2) (C := RX8) (T := TX8) (N := 6) hx hb hts iw_k_X8_turnsBetween_X8 hown hK hP 3 rfl rfl 4 (by decide) (hts (.fieldLink RX8 33 "TopTurned$Walks" "first" "[I") (by decide +kernel)) (fun _ h9 => h9) rfl dX8_turnsBetween_6 ?_
  refine lv_iload_n hx hb dX8_turnsBetween_9 rfl (lv_at hl 1 rfl) ?_
  refine lv_iconst (v := 0) hx hb dX8_turnsBetween_10 (by decide) ?_
  refine va_iast (i := 0) (x := 0) hx hb hK hP hD hS 5 1 rfl rfl (vp_in_iff.mpr (by decide)) dX8_turnsBetween_11 (fun H locs hP hD hS => ?_)
  have hP : va_P D vwCl [(h3, .inl (cI, 3840, .inl (fun _ => 0))), (h4, .inl (cI, 3840, .inl (fun _ => 0))), (h5, .inr (1, [.ref h1, .ref h6, .ref h4, .ref h2, .ref h13, .ref h14, .ref h15, .int 0, .int 0])), (h0, .inr (8, [.ref h1, .ref h6, .ref h5, .ref h4, .ref h2, .ref h3])), (h1, .inr (5, [.int 0, .int 1, .int 1, .int 1, .int 0, .ref h7, .ref h8, .ref h9, .ref h10, .ref h11, .ref h12])), (h2, .inl (cI, 3840, .inl (upd (upd (fun _ => 0) (Int32.toNatClampNeg 0) (-1)) (Int32.toNatClampNeg 0) 0)))] H := hP
  have hD : va_D A [(h3, .inl (cI, 3840, .inl (fun _ => 0))), (h4, .inl (cI, 3840, .inl (fun _ => 0))), (h5, .inr (1, [.ref h1, .ref h6, .ref h4, .ref h2, .ref h13, .ref h14, .ref h15, .int 0, .int 0])), (h0, .inr (8, [.ref h1, .ref h6, .ref h5, .ref h4, .ref h2, .ref h3])), (h1, .inr (5, [.int 0, .int 1, .int 1, .int 1, .int 0, .ref h7, .ref h8, .ref h9, .ref h10, .ref h11, .ref h12])), (h2, .inl (cI, 3840, .inl (upd (upd (fun _ => 0) (Int32.toNatClampNeg 0) (-1)) (Int32.toNatClampNeg 0) 0)))] := hD
  refine lv_aload_n hx hb dX8_turnsBetween_12 rfl (lv_at hl 0 rfl) ?_
  refine va_get (D := D) (ci := 8) (v := .ref h3) (C := RX8) (T := TX8) (N := 6) hx hb hts iw_k_X8_turnsBetween_X8 hown hK hP 3 rfl rfl 5 (by decide) (hts (.fieldLink RX8 37 "TopTurned$Walks" "second" "[I") (by decide +kernel)) (fun _ h9 => h9) rfl dX8_turnsBetween_13 ?_
  refine lv_iload_n hx hb dX8_turnsBetween_16 rfl (lv_at hl 1 rfl) ?_
  refine lv_iconst (v := 1) hx hb dX8_turnsBetween_17 (by decide) ?_
  refine va_iast (i := 0) (x := 1) hx hb hK hP hD hS 0 1 rfl rfl (vp_in_iff.mpr (by decide)) dX8_turnsBetween_18 (fun H locs hP hD hS => ?_)
  have hP : va_P D vwCl [(h3, .inl (cI, 3840, .inl (upd (fun _ => 0) (Int32.toNatClampNeg 0) 1))), (h4, .inl (cI, 3840, .inl (fun _ => 0))), (h5, .inr (1, [.ref h1, .ref h6, .ref h4, .ref h2, .ref h13, .ref h14, .ref h15, .int 0, .int 0])), (h0, .inr (8, [.ref h1, .ref h6, .ref h5, .ref h4, .ref h2, .ref h3])), (h1, .inr (5, [.int 0, .int 1, .int 1, .int 1, .int 0, .ref h7, .ref h8, .ref h9, .ref h10, .ref h11, .ref h12])), (h2, .inl (cI, 3840, .inl (upd (upd (fun _ => 0) (Int32.toNatClampNeg 0) (-1)) (Int32.toNatClampNeg 0) 0)))] H := hP
  have hD : va_D A [(h3, .inl (cI, 3840, .inl (upd (fun _ => 0) (Int32.toNatClampNeg 0) 1))), (h4, .inl (cI, 3840, .inl (fun _ => 0))), (h5, .inr (1, [.ref h1, .ref h6, .ref h4, .ref h2, .ref h13, .ref h14, .ref h15, .int 0, .int 0])), (h0, .inr (8, [.ref h1, .ref h6, .ref h5, .ref h4, .ref h2, .ref h3])), (h1, .inr (5, [.int 0, .int 1, .int 1, .int 1, .int 0, .ref h7, .ref h8, .ref h9, .ref h10, .ref h11, .ref h12])), (h2, .inl (cI, 3840, .inl (upd (upd (fun _ => 0) (Int32.toNatClampNeg 0) (-1)) (Int32.toNatClampNeg 0) 0)))] := hD
  refine lv_aload_n hx hb dX8_turnsBetween_19 rfl (lv_at hl 0 rfl) ?_
  refine va_get (D := D) (ci := 8) (v := .ref h4) (C := RX8) (T := TX8) (N := 6) hx hb hts iw_k_X8_turnsBetween_X8 hown hK hP 3 rfl rfl 3 (by decide) (hts (.fieldLink RX8 29 "TopTurned$Walks" "queue" "[I") (by decide +kernel)) (fun _ h9 => h9) rfl dX8_turnsBetween_20 ?_
  refine lv_iconst (v := 0) hx hb dX8_turnsBetween_23 (by decide) ?_
  refine lv_iload_n hx hb dX8_turnsBetween_24 rfl (lv_at hl 1 rfl) ?_
  refine kn_iastS (i := 0) (x := 0) hx hb hK hP hD hS 1 1 rfl rfl (vp_in_iff.mpr (by decide)) (by decide +kernel) dX8_turnsBetween_25 (fun H locs hP hD hS => ?_)
  refine lv_aload_n hx hb dX8_turnsBetween_26 rfl (lv_at hl 0 rfl) ?_
  refine va_get (D := D) (ci := 8) (v := .ref h5) (C := RX8) (T := TX8) (N := 6) hx hb hts iw_k_X8_turnsBetween_X8 hown hK hP 3 rfl rfl 2 (by decide) (hts (.fieldLink RX8 19 "TopTurned$Walks" "chart" "LTopTurned$Chart;") (by decide +kernel)) (fun _ h9 => h9) rfl dX8_turnsBetween_27 ?_
  refine lv_aload_n hx hb dX8_turnsBetween_30 rfl (lv_at hl 0 rfl) ?_
  refine va_get (D := D) (ci := 8) (v := .ref h2) (C := RX8) (T := TX8) (N := 6) hx hb hts iw_k_X8_turnsBetween_X8 hown hK hP 3 rfl rfl 4 (by decide) (hts (.fieldLink RX8 33 "TopTurned$Walks" "first" "[I") (by decide +kernel)) (fun _ h9 => h9) rfl dX8_turnsBetween_31 ?_
  refine lv_aload_n hx hb dX8_turnsBetween_34 rfl (lv_at hl 0 rfl) ?_
  refine va_get (D := D) (ci := 8) (v := .ref h3) (C := RX8) (T := TX8) (N := 6) hx hb hts iw_k_X8_turnsBetween_X8 hown hK hP 3 rfl rfl 5 (by decide) (hts (.fieldLink RX8 37 "TopTurned$Walks" "second" "[I") (by decide +kernel)) (fun _ h9 => h9) rfl dX8_turnsBetween_35 ?_
  refine lv_iconst (v := 1) hx hb dX8_turnsBetween_38 (by decide) ?_
  have hPc := hP.sub (ws' := [(h5, .inr (1, [.ref h1, .ref h6, .ref h4, .ref h2, .ref h13, .ref h14, .ref h15, .int 0, .int 0])), (h4, .inl (cI, 3840, .inl (fun _ => 0))), (h1, .inr (5, [.int 0, .int 1, .int 1, .int 1, .int 0, .ref h7, .ref h8, .ref h9, .ref h10, .ref h11, .ref h12]))]) [2, 1, 4] rfl
  have hDc := hD.sub (ws' := [(h5, .inr (1, [.ref h1, .ref h6, .ref h4, .ref h2, .ref h13, .ref h14, .ref h15, .int 0, .int 0])), (h4, .inl (cI, 3840, .inl (fun _ => 0))), (h1, .inr (5, [.int 0, .int 1, .int 1, .int 1, .int 0, .ref h7, .ref h8, .ref h9, .ref h10, .ref h11, .ref h12]))]) [2, 1, 4] (by decide) rfl
  refine va_callv (va_runV (As := [.ref h2, .ref h3, .int 1]) (rest := []) ⟨hx, hb, hml, hown, hts⟩ (k_X1_flood_1 l D cC cI cZ h5 h2 h3 h4 h1 h6 h13 h14 h15 h7 h8 h9 h10 h11 h12 H.size ) (cwV (C := RX1) 3 hts (goodIn_app (goodIn_of _ (by decide +kernel)) gc_k_X8_turnsBetween_k_X1_flood_1) rfl rfl rfl (by decide +kernel) ⟨(Nat.le_of_ble_eq_true rfl), (Nat.le_of_ble_eq_true rfl)⟩) (kPreV hK hPc hDc (va_recv hK hPc (ci := 1) (q0 := 0) rfl rfl)) rfl rfl hl.1 rfl (lv_room (Nat.le_of_ble_eq_true rfl)) dX8_turnsBetween_39 ⟨(Nat.le_of_ble_eq_true rfl), (Nat.le_of_ble_eq_true rfl)⟩) hS (fun q _ h => False.elim h) (fun q h => False.elim h) (fun u t H1 locs ht hvm hw hB hz1 hk1 hS => ?_)
  have hP := hP.kept (H1 := H1) (fun k q hk => hk1 q.1 (hP k q hk).lt (fun h => h))
  generalize H1 = H at hP hS ⊢
  refine lv_aload_n hx hb dX8_turnsBetween_42 rfl (lv_at hl 0 rfl) ?_
  refine va_get (D := D) (ci := 8) (v := .ref h2) (C := RX8) (T := TX8) (N := 6) hx hb hts iw_k_X8_turnsBetween_X8 hown hK hP 3 rfl rfl 4 (by decide) (hts (.fieldLink RX8 33 "TopTurned$Walks" "first" "[I") (by decide +kernel)) (fun _ h9 => h9) rfl dX8_turnsBetween_43 ?_
  refine lv_iload_n hx hb dX8_turnsBetween_46 rfl (lv_at hl 2 rfl) ?_
  refine va_iald (i := 0) hx hb hK hP 5 1 rfl rfl (vp_in_iff.mpr (by decide)) dX8_turnsBetween_47 ?_
  refine kt_eq (y := 0) (by decide +kernel) ?_
  refine W.widen (k := 0) (n := 0) (Nat.le_of_ble_eq_true rfl) (Nat.le_of_ble_eq_true rfl) ?_
  have hP9 := hP.sub (ws' := [(h3, .inl (cI, 3840, .inl (upd (fun _ => 0) (Int32.toNatClampNeg 0) 1))), (h4, .inl (cI, 3840, .inl (fun _ => 0))), (h5, .inr (1, [.ref h1, .ref h6, .ref h4, .ref h2, .ref h13, .ref h14, .ref h15, .int 0, .int 0])), (h0, .inr (8, [.ref h1, .ref h6, .ref h5, .ref h4, .ref h2, .ref h3])), (h1, .inr (5, [.int 0, .int 1, .int 1, .int 1, .int 0, .ref h7, .ref h8, .ref h9, .ref h10, .ref h11, .ref h12])), (h2, .inl (cI, 3840, .inl (upd (upd (fun _ => 0) (Int32.toNatClampNeg 0) (-1)) (Int32.toNatClampNeg 0) 0)))]) [0, 1, 2, 3, 4, 5] rfl
  have hD9 := hD.sub (ws' := [(h3, .inl (cI, 3840, .inl (upd (fun _ => 0) (Int32.toNatClampNeg 0) 1))), (h4, .inl (cI, 3840, .inl (fun _ => 0))), (h5, .inr (1, [.ref h1, .ref h6, .ref h4, .ref h2, .ref h13, .ref h14, .ref h15, .int 0, .int 0])), (h0, .inr (8, [.ref h1, .ref h6, .ref h5, .ref h4, .ref h2, .ref h3])), (h1, .inr (5, [.int 0, .int 1, .int 1, .int 1, .int 0, .ref h7, .ref h8, .ref h9, .ref h10, .ref h11, .ref h12])), (h2, .inl (cI, 3840, .inl (upd (upd (fun _ => 0) (Int32.toNatClampNeg 0) (-1)) (Int32.toNatClampNeg 0) 0)))]) [0, 1, 2, 3, 4, 5] (by decide) rfl
  exact W.iret (v := 0) hx hb hr (fun t ht hW => ⟨⟨0, (), rfl, rfl, ⟨by rw [ht]; exact hP9, hD9⟩⟩, hS.F ht⟩) hS.2.2 dX8_turnsBetween_48
