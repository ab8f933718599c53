def sw_k_X10_count : List Cond := .code yX10_count cX10_count 2 (some .int) :: (([.fieldLink RX10 13 "TopTurnedModel" "told" "[I", .fieldLink RX10 217 "TopTurnedModel" "rows" "I", .fieldLink RX10 98 "TopTurnedModel" "taped" "I", .methodLink RX10 161 yX10_look, .instanceMethod yX10_look, .selects RX10 yX10_look yX10_look, .initialized RX10, .methodLink RX10 227 yX10_mays, .instanceMethod yX10_mays, .selects RX10 yX10_mays yX10_mays, .fieldLink RX10 7 "TopTurnedModel" "refused" "[I"] : List Cond) ++ (wsX100 ++ (sw_k_X10_look ++ (sw_k_X10_mays ++ (([] : List Cond))))))
theorem gd_k_X10_count : ∀ w ∈ sw_k_X10_count, (w.onTables && w.keeps) = true ∨ ∃ ty, w = .arrayClass ty := List.forall_mem_cons.mpr ⟨good_of_word rfl, List.forall_mem_append.mpr ⟨fun w h => good_of_word (List.all_eq_true.mp (by decide +kernel : (([.fieldLink RX10 13 "TopTurnedModel" "told" "[I", .fieldLink RX10 217 "TopTurnedModel" "rows" "I", .fieldLink RX10 98 "TopTurnedModel" "taped" "I", .methodLink RX10 161 yX10_look, .instanceMethod yX10_look, .selects RX10 yX10_look yX10_look, .initialized RX10, .methodLink RX10 227 yX10_mays, .instanceMethod yX10_mays, .selects RX10 yX10_mays yX10_mays, .fieldLink RX10 7 "TopTurnedModel" "refused" "[I"] : List Cond)).all goodWord = true) w h), List.forall_mem_append.mpr ⟨gw_X10, List.forall_mem_append.mpr ⟨gd_k_X10_look, List.forall_mem_append.mpr ⟨gd_k_X10_mays, fun _ h => absurd h List.not_mem_nil⟩⟩⟩⟩⟩
theorem iw_k_X10_count_X10 : ∀ w ∈ wsX100, w ∈ sw_k_X10_count := fun _ h => List.mem_cons_of_mem _ (List.mem_append_right _ (List.mem_append_left _ h))
theorem gc_k_X10_count_k_X10_look : GoodIn sw_k_X10_count sw_k_X10_look := fun w h => ⟨List.mem_cons_of_mem _ (List.mem_append_right _ (List.mem_append_right _ (List.mem_append_left _ h))), gd_k_X10_look w h⟩
theorem gc_k_X10_count_k_X10_mays : GoodIn sw_k_X10_count sw_k_X10_mays := fun w h => ⟨List.mem_cons_of_mem _ (List.mem_append_right _ (List.mem_append_right _ (List.mem_append_right _ (List.mem_append_left _ h)))), gd_k_X10_mays w h⟩
set_option maxHeartbeats 4000000 in
set_option maxRecDepth 100000 in
theorem k_X10_count (l : Launch) (D : va_G) (cC cI cZ : ClassId) (h0 h1 h2 h3 h4 h5 h6 h7 h8 h9 h10 h11 h12 h13 h14 h15 h16 h17 h18 h19 h20 h21 h22 h23 h24 h25 : Nat) (sz : Nat) (p1 : Int32) : Met l yX10_count sw_k_X10_count ({ frames := 6, cells := 0, slots := 0, locals := 300 }) (va_Pc [.ref h0, .int p1] (kPre D cC cI cZ [(h0, .inr (10, [.ref h6, .ref h1, .ref h7, .ref h8, .ref h9, .ref h2, .ref h4, .int 0, .ref h10, .ref h11, .ref h12, .ref h13, .ref h14, .ref h15, .ref h16, .int 0, .int 0, .int 0, .ref h17, .ref h18, .int 0, .int 0, .int 0, .ref h3, .ref h5, .ref h19, .ref h20, .ref h21, .ref h22, .ref h23, .int 0, .ref h24, .int 0, .ref h25])), (h1, .inl (cI, 9, .inl (upd (upd (upd (fun _ => 0) (Int32.toNatClampNeg 3) 5) (Int32.toNatClampNeg 4) 9) (Int32.toNatClampNeg 7) 1))), (h2, .inl (cI, 5, .inl (fun _ => 0))), (h3, .inl (cI, 5, .inl (fun _ => 0))), (h4, .inl (cI, 5, .inl (fun _ => 0))), (h5, .inl (cI, 5, .inl (fun _ => 0))), (h6, .inl (cI, 7, .inl (fun _ => 0)))] sz)) (va_Qi (fun (r : Int32) (_ : Unit) => r = (if p1 = 0 then 0 else (if p1 = 1 then 0 else (if p1 = 2 then 0 else (if p1 = 3 then 5 else (if p1 = 4 then 9 else (if p1 = 5 then 0 else (if p1 = 6 then 0 else (if p1 = 7 then 0 else (if p1 = 8 then 0 else (if p1 = 9 then 0 else (if p1 = 10 then (-9) else (if p1 = 11 then 0 else (if p1 = 12 then 0 else (if p1 = 13 then 0 else (if p1 = 14 then 0 else (if p1 = 15 then 0 else (if p1 = 16 then 0 else (-9))))))))))))))))))) (fun _ _ => True) (va_A [(h0, .inr (10, [.ref h6, .ref h1, .ref h7, .ref h8, .ref h9, .ref h2, .ref h4, .int 0, .ref h10, .ref h11, .ref h12, .ref h13, .ref h14, .ref h15, .ref h16, .int 0, .int 0, .int 0, .ref h17, .ref h18, .int 0, .int 0, .int 0, .ref h3, .ref h5, .ref h19, .ref h20, .ref h21, .ref h22, .ref h23, .int 0, .ref h24, .int 0, .ref h25])), (h1, .inl (cI, 9, .inl (upd (upd (upd (fun _ => 0) (Int32.toNatClampNeg 3) 5) (Int32.toNatClampNeg 4) 9) (Int32.toNatClampNeg 7) 1))), (h2, .inl (cI, 5, .inl (fun _ => 0))), (h3, .inl (cI, 5, .inl (fun _ => 0))), (h4, .inl (cI, 5, .inl (fun _ => 0))), (h5, .inl (cI, 5, .inl (fun _ => 0))), (h6, .inl (cI, 7, .inl (fun _ => 0)))] sz)) 0 0 (va_A [(h0, .inr (10, [.ref h6, .ref h1, .ref h7, .ref h8, .ref h9, .ref h2, .ref h4, .int 0, .ref h10, .ref h11, .ref h12, .ref h13, .ref h14, .ref h15, .ref h16, .int 0, .int 0, .int 0, .ref h17, .ref h18, .int 0, .int 0, .int 0, .ref h3, .ref h5, .ref h19, .ref h20, .ref h21, .ref h22, .ref h23, .int 0, .ref h24, .int 0, .ref h25])), (h1, .inl (cI, 9, .inl (upd (upd (upd (fun _ => 0) (Int32.toNatClampNeg 3) 5) (Int32.toNatClampNeg 4) 9) (Int32.toNatClampNeg 7) 1))), (h2, .inl (cI, 5, .inl (fun _ => 0))), (h3, .inl (cI, 5, .inl (fun _ => 0))), (h4, .inl (cI, 5, .inl (fun _ => 0))), (h5, .inl (cI, 5, .inl (fun _ => 0))), (h6, .inl (cI, 7, .inl (fun _ => 0)))] sz) := by
  refine Met.ofW (cc := cX10_count) (maxL := 2) (ret := (some .int)) (by decide) rfl ?_
  intro p e s m args below meth c s₁ B hml hv
  obtain ⟨rfl, hsz, hP, hK, hD0⟩ := hv
  have hx := B.exec
  have hb := B.bytes
  have hr := B.returns
  have hts := atoms_spec (ws := sw_k_X10_count) B.pre
  have hown : s.vm.findClass RX10 = some m.cls := findClass_of_methodNamed B.named
  have hlocks := B.notSynchronized
  subst hsz
  have hD := hD0.self (sz := s.heap.size)
  generalize hAe : va_A [(h0, .inr (10, [.ref h6, .ref h1, .ref h7, .ref h8, .ref h9, .ref h2, .ref h4, .int 0, .ref h10, .ref h11, .ref h12, .ref h13, .ref h14, .ref h15, .ref h16, .int 0, .int 0, .int 0, .ref h17, .ref h18, .int 0, .int 0, .int 0, .ref h3, .ref h5, .ref h19, .ref h20, .ref h21, .ref h22, .ref h23, .int 0, .ref h24, .int 0, .ref h25])), (h1, .inl (cI, 9, .inl (upd (upd (upd (fun _ => 0) (Int32.toNatClampNeg 3) 5) (Int32.toNatClampNeg 4) 9) (Int32.toNatClampNeg 7) 1))), (h2, .inl (cI, 5, .inl (fun _ => 0))), (h3, .inl (cI, 5, .inl (fun _ => 0))), (h4, .inl (cI, 5, .inl (fun _ => 0))), (h5, .inl (cI, 5, .inl (fun _ => 0))), (h6, .inl (cI, 7, .inl (fun _ => 0)))] s.heap.size = A at hD ⊢
  have hA : ∀ q : Nat, s.heap.size ≤ q → A q := fun q h => by rw [← hAe]; exact Or.inr h
  have hS : va_S A s.heap s.heap [] := va_S.rf
  have hl := lv_entry ([.ref h0, .int p1]) (n := 2) (Nat.le_of_ble_eq_true rfl)
  rw [lg_entry_eq]
  generalize (lg_sl ([.ref h0, .int p1]) ++ List.replicate (2 - (lg_sl ([.ref h0, .int p1])).length) Slot.unset).toArray = ls at hl ⊢
  have hl : lv_has ls 2 [(0, .ref h0), (1, .int p1)] := hl
  rcases (ksp16 p1) with rfl | rfl | rfl | rfl | rfl | rfl | rfl | rfl | rfl | rfl | rfl | rfl | rfl | rfl | rfl | rfl | rfl | hlo | hhi
  · refine lv_iload_n hx hb dX10_count_0 rfl (lv_at hl 1 rfl) ?_
    refine lv_tableOut (tgt := 48) hx hb dX10_count_1 (by decide) (by decide) ?_
    refine lv_iload_n hx hb dX10_count_48 rfl (lv_at hl 1 rfl) ?_
    refine lv_if_lt (tgt := 67) hx hb dX10_count_49 (by decide) (fun c => absurd c (by decide)) (fun _ => ?_)
    refine lv_iload_n hx hb dX10_count_52 rfl (lv_at hl 1 rfl) ?_
    refine lv_bipush (v := 7) hx hb dX10_count_53 (by decide) ?_
    refine lv_icmp_ge (tgt := 67) hx hb dX10_count_55 (by decide) (fun c => absurd c (by decide)) (fun _ => ?_)
    refine lv_aload_n hx hb dX10_count_58 rfl (lv_at hl 0 rfl) ?_
    refine va_get (D := D) (ci := 10) (v := .ref h1) (C := RX10) (T := TX10) (N := 34) hx hb hts iw_k_X10_count_X10 hown hK hP 0 rfl rfl 1 (by decide) (hts (.fieldLink RX10 13 "TopTurnedModel" "told" "[I") (by decide +kernel)) (fun _ h9 => h9) rfl dX10_count_59 ?_
    refine lv_iload_n hx hb dX10_count_62 rfl (lv_at hl 1 rfl) ?_
    refine va_iald (i := 0) hx hb hK hP 1 1 rfl rfl (vp_in_iff.mpr (by decide)) dX10_count_63 ?_
    refine kt_eq (y := 0) (by decide +kernel) ?_
    refine lv_goto (tgt := 93) hx hb dX10_count_64 (by decide) ?_
    refine W.widen (k := 0) (n := 0) (Nat.le_of_ble_eq_true rfl) (Nat.le_of_ble_eq_true rfl) ?_
    exact W.iret (v := 0) hx hb hr (fun t ht hW => ⟨⟨0, (), rfl, (by decide), trivial⟩, hS.F ht⟩) hS.2.2 dX10_count_93
  · refine lv_iload_n hx hb dX10_count_0 rfl (lv_at hl 1 rfl) ?_
    refine lv_tableOut (tgt := 48) hx hb dX10_count_1 (by decide) (by decide) ?_
    refine lv_iload_n hx hb dX10_count_48 rfl (lv_at hl 1 rfl) ?_
    refine lv_if_lt (tgt := 67) hx hb dX10_count_49 (by decide) (fun c => absurd c (by decide)) (fun _ => ?_)
    refine lv_iload_n hx hb dX10_count_52 rfl (lv_at hl 1 rfl) ?_
    refine lv_bipush (v := 7) hx hb dX10_count_53 (by decide) ?_
    refine lv_icmp_ge (tgt := 67) hx hb dX10_count_55 (by decide) (fun c => absurd c (by decide)) (fun _ => ?_)
    refine lv_aload_n hx hb dX10_count_58 rfl (lv_at hl 0 rfl) ?_
    refine va_get (D := D) (ci := 10) (v := .ref h1) (C := RX10) (T := TX10) (N := 34) hx hb hts iw_k_X10_count_X10 hown hK hP 0 rfl rfl 1 (by decide) (hts (.fieldLink RX10 13 "TopTurnedModel" "told" "[I") (by decide +kernel)) (fun _ h9 => h9) rfl dX10_count_59 ?_
    refine lv_iload_n hx hb dX10_count_62 rfl (lv_at hl 1 rfl) ?_
    refine va_iald (i := 1) hx hb hK hP 1 1 rfl rfl (vp_in_iff.mpr (by decide)) dX10_count_63 ?_
    refine kt_eq (y := 0) (by decide +kernel) ?_
    refine lv_goto (tgt := 93) hx hb dX10_count_64 (by decide) ?_
    refine W.widen (k := 0) (n := 0) (Nat.le_of_ble_eq_true rfl) (Nat.le_of_ble_eq_true rfl) ?_
    exact W.iret (v := 0) hx hb hr (fun t ht hW => ⟨⟨0, (), rfl, (by decide), trivial⟩, hS.F ht⟩) hS.2.2 dX10_count_93
  · refine lv_iload_n hx hb dX10_count_0 rfl (lv_at hl 1 rfl) ?_
    refine lv_tableOut (tgt := 48) hx hb dX10_count_1 (by decide) (by decide) ?_
    refine lv_iload_n hx hb dX10_count_48 rfl (lv_at hl 1 rfl) ?_
    refine lv_if_lt (tgt := 67) hx hb dX10_count_49 (by decide) (fun c => absurd c (by decide)) (fun _ => ?_)
    refine lv_iload_n hx hb dX10_count_52 rfl (lv_at hl 1 rfl) ?_
    refine lv_bipush (v := 7) hx hb dX10_count_53 (by decide) ?_
    refine lv_icmp_ge (tgt := 67) hx hb dX10_count_55 (by decide) (fun c => absurd c (by decide)) (fun _ => ?_)
    refine lv_aload_n hx hb dX10_count_58 rfl (lv_at hl 0 rfl) ?_
    refine va_get (D := D) (ci := 10) (v := .ref h1) (C := RX10) (T := TX10) (N := 34) hx hb hts iw_k_X10_count_X10 hown hK hP 0 rfl rfl 1 (by decide) (hts (.fieldLink RX10 13 "TopTurnedModel" "told" "[I") (by decide +kernel)) (fun _ h9 => h9) rfl dX10_count_59 ?_
    refine lv_iload_n hx hb dX10_count_62 rfl (lv_at hl 1 rfl) ?_
    refine va_iald (i := 2) hx hb hK hP 1 1 rfl rfl (vp_in_iff.mpr (by decide)) dX10_count_63 ?_
    refine kt_eq (y := 0) (by decide +kernel) ?_
    refine lv_goto (tgt := 93) hx hb dX10_count_64 (by decide) ?_
    refine W.widen (k := 0) (n := 0) (Nat.le_of_ble_eq_true rfl) (Nat.le_of_ble_eq_true rfl) ?_
    exact W.iret (v := 0) hx hb hr (fun t ht hW => ⟨⟨0, (), rfl, (by decide), trivial⟩, hS.F ht⟩) hS.2.2 dX10_count_93
  · refine lv_iload_n hx hb dX10_count_0 rfl (lv_at hl 1 rfl) ?_
    refine lv_tableOut (tgt := 48) hx hb dX10_count_1 (by decide) (by decide) ?_
    refine lv_iload_n hx hb dX10_count_48 rfl (lv_at hl 1 rfl) ?_
    refine lv_if_lt (tgt := 67) hx hb dX10_count_49 (by decide) (fun c => absurd c (by decide)) (fun _ => ?_)
    refine lv_iload_n hx hb dX10_count_52 rfl (lv_at hl 1 rfl) ?_
    refine lv_bipush (v := 7) hx hb dX10_count_53 (by decide) ?_
    refine lv_icmp_ge (tgt := 67) hx hb dX10_count_55 (by decide) (fun c => absurd c (by decide)) (fun _ => ?_)
    refine lv_aload_n hx hb dX10_count_58 rfl (lv_at hl 0 rfl) ?_
    refine va_get (D := D) (ci := 10) (v := .ref h1) (C := RX10) (T := TX10) (N := 34) hx hb hts iw_k_X10_count_X10 hown hK hP 0 rfl rfl 1 (by decide) (hts (.fieldLink RX10 13 "TopTurnedModel" "told" "[I") (by decide +kernel)) (fun _ h9 => h9) rfl dX10_count_59 ?_
    refine lv_iload_n hx hb dX10_count_62 rfl (lv_at hl 1 rfl) ?_
    refine va_iald (i := 3) hx hb hK hP 1 1 rfl rfl (vp_in_iff.mpr (by decide)) dX10_count_63 ?_
    refine kt_eq (y := 5) (by decide +kernel) ?_
    refine lv_goto (tgt := 93) hx hb dX10_count_64 (by decide) ?_
    refine W.widen (k := 0) (n := 0) (Nat.le_of_ble_eq_true rfl) (Nat.le_of_ble_eq_true rfl) ?_
    exact W.iret (v := 5) hx hb hr (fun t ht hW => ⟨⟨5, (), rfl, (by decide), trivial⟩, hS.F ht⟩) hS.2.2 dX10_count_93
  · refine lv_iload_n hx hb dX10_count_0 rfl (lv_at hl 1 rfl) ?_
    refine lv_tableOut (tgt := 48) hx hb dX10_count_1 (by decide) (by decide) ?_
    refine lv_iload_n hx hb dX10_count_48 rfl (lv_at hl 1 rfl) ?_
    refine lv_if_lt (tgt := 67) hx hb dX10_count_49 (by decide) (fun c => absurd c (by decide)) (fun _ => ?_)
    refine lv_iload_n hx hb dX10_count_52 rfl (lv_at hl 1 rfl) ?_
    refine lv_bipush (v := 7) hx hb dX10_count_53 (by decide) ?_
    refine lv_icmp_ge (tgt := 67) hx hb dX10_count_55 (by decide) (fun c => absurd c (by decide)) (fun _ => ?_)
    refine lv_aload_n hx hb dX10_count_58 rfl (lv_at hl 0 rfl) ?_
    refine va_get (D := D) (ci := 10) (v := .ref h1) (C := RX10) (T := TX10) (N := 34) hx hb hts iw_k_X10_count_X10 hown hK hP 0 rfl rfl 1 (by decide) (hts (.fieldLink RX10 13 "TopTurnedModel" "told" "[I") (by decide +kernel)) (fun _ h9 => h9) rfl dX10_count_59 ?_
    refine lv_iload_n hx hb dX10_count_62 rfl (lv_at hl 1 rfl) ?_
    refine va_iald (i := 4) hx hb hK hP 1 1 rfl rfl (vp_in_iff.mpr (by decide)) dX10_count_63 ?_
    refine kt_eq (y := 9) (by decide +kernel) ?_
    refine lv_goto (tgt := 93) hx hb dX10_count_64 (by decide) ?_
    refine W.widen (k := 0) (n := 0) (Nat.le_of_ble_eq_true rfl) (Nat.le_of_ble_eq_true rfl) ?_
    exact W.iret (v := 9) hx hb hr (fun t ht hW => ⟨⟨9, (), rfl, (by decide), trivial⟩, hS.F ht⟩) hS.2.2 dX10_count_93
  · refine lv_iload_n hx hb dX10_count_0 rfl (lv_at hl 1 rfl) ?_
    refine lv_tableOut (tgt := 48) hx hb dX10_count_1 (by decide) (by decide) ?_
    refine lv_iload_n hx hb dX10_count_48 rfl (lv_at hl 1 rfl) ?_
    refine lv_if_lt (tgt := 67) hx hb dX10_count_49 (by decide) (fun c => absurd c (by decide)) (fun _ => ?_)
    refine lv_iload_n hx hb dX10_count_52 rfl (lv_at hl 1 rfl) ?_
    refine lv_bipush (v := 7) hx hb dX10_count_53 (by decide) ?_
    refine lv_icmp_ge (tgt := 67) hx hb dX10_count_55 (by decide) (fun c => absurd c (by decide)) (fun _ => ?_)
    refine lv_aload_n hx hb dX10_count_58 rfl (lv_at hl 0 rfl) ?_
    refine va_get (D := D) (ci := 10) (v := .ref h1) (C := RX10) (T := TX10) (N := 34) hx hb hts iw_k_X10_count_X10 hown hK hP 0 rfl rfl 1 (by decide) (hts (.fieldLink RX10 13 "TopTurnedModel" "told" "[I") (by decide +kernel)) (fun _ h9 => h9) rfl dX10_count_59 ?_
    refine lv_iload_n hx hb dX10_count_62 rfl (lv_at hl 1 rfl) ?_
    refine va_iald (i := 5) hx hb hK hP 1 1 rfl rfl (vp_in_iff.mpr (by decide)) dX10_count_63 ?_
    refine kt_eq (y := 0) (by decide +kernel) ?_
    refine lv_goto (tgt := 93) hx hb dX10_count_64 (by decide) ?_
    refine W.widen (k := 0) (n := 0) (Nat.le_of_ble_eq_true rfl) (Nat.le_of_ble_eq_true rfl) ?_
    exact W.iret (v := 0) hx hb hr (fun t ht hW => ⟨⟨0, (), rfl, (by decide), trivial⟩, hS.F ht⟩) hS.2.2 dX10_count_93
  · refine lv_iload_n hx hb dX10_count_0 rfl (lv_at hl 1 rfl) ?_
    refine lv_tableOut (tgt := 48) hx hb dX10_count_1 (by decide) (by decide) ?_
    refine lv_iload_n hx hb dX10_count_48 rfl (lv_at hl 1 rfl) ?_
    refine lv_if_lt (tgt := 67) hx hb dX10_count_49 (by decide) (fun c => absurd c (by decide)) (fun _ => ?_)
    refine lv_iload_n hx hb dX10_count_52 rfl (lv_at hl 1 rfl) ?_
    refine lv_bipush (v := 7) hx hb dX10_count_53 (by decide) ?_
    refine lv_icmp_ge (tgt := 67) hx hb dX10_count_55 (by decide) (fun c => absurd c (by decide)) (fun _ => ?_)
    refine lv_aload_n hx hb dX10_count_58 rfl (lv_at hl 0 rfl) ?_
    refine va_get (D := D) (ci := 10) (v := .ref h1) (C := RX10) (T := TX10) (N := 34) hx hb hts iw_k_X10_count_X10 hown hK hP 0 rfl rfl 1 (by decide) (hts (.fieldLink RX10 13 "TopTurnedModel" "told" "[I") (by decide +kernel)) (fun _ h9 => h9) rfl dX10_count_59 ?_
    refine lv_iload_n hx hb dX10_count_62 rfl (lv_at hl 1 rfl) ?_
    refine va_iald (i := 6) hx hb hK hP 1 1 rfl rfl (vp_in_iff.mpr (by decide)) dX10_count_63 ?_
    refine kt_eq (y := 0) (by decide +kernel) ?_
    refine lv_goto (tgt := 93) hx hb dX10_count_64 (by decide) ?_
    refine W.widen (k := 0) (n := 0) (Nat.le_of_ble_eq_true rfl) (Nat.le_of_ble_eq_true rfl) ?_
    exact W.iret (v := 0) hx hb hr (fun t ht hW => ⟨⟨0, (), rfl, (by decide), trivial⟩, hS.F ht⟩) hS.2.2 dX10_count_93
  · refine lv_iload_n hx hb dX10_count_0 rfl (lv_at hl 1 rfl) ?_
    refine lv_tableIn (off := 27) (tgt := 28) hx hb dX10_count_1 (by decide) (by decide) rfl (by decide) ?_
    refine lv_aload_n hx hb dX10_count_28 rfl (lv_at hl 0 rfl) ?_
    refine va_get (D := D) (ci := 10) (v := .int 0) (C := RX10) (T := TX10) (N := 34) hx hb hts iw_k_X10_count_X10 hown hK hP 0 rfl rfl 32 (by decide) (hts (.fieldLink RX10 217 "TopTurnedModel" "rows" "I") (by decide +kernel)) (fun _ h9 => h9) rfl dX10_count_29 ?_
    refine W.widen (k := 0) (n := 0) (Nat.le_of_ble_eq_true rfl) (Nat.le_of_ble_eq_true rfl) ?_
    exact W.iret (v := 0) hx hb hr (fun t ht hW => ⟨⟨0, (), rfl, (by decide), trivial⟩, hS.F ht⟩) hS.2.2 dX10_count_32
  · refine lv_iload_n hx hb dX10_count_0 rfl (lv_at hl 1 rfl) ?_
    refine lv_tableIn (off := 32) (tgt := 33) hx hb dX10_count_1 (by decide) (by decide) rfl (by decide) ?_
    refine lv_aload_n hx hb dX10_count_33 rfl (lv_at hl 0 rfl) ?_
    refine va_get (D := D) (ci := 10) (v := .int 0) (C := RX10) (T := TX10) (N := 34) hx hb hts iw_k_X10_count_X10 hown hK hP 0 rfl rfl 15 (by decide) (hts (.fieldLink RX10 98 "TopTurnedModel" "taped" "I") (by decide +kernel)) (fun _ h9 => h9) rfl dX10_count_34 ?_
    refine W.widen (k := 0) (n := 0) (Nat.le_of_ble_eq_true rfl) (Nat.le_of_ble_eq_true rfl) ?_
    exact W.iret (v := 0) hx hb hr (fun t ht hW => ⟨⟨0, (), rfl, (by decide), trivial⟩, hS.F ht⟩) hS.2.2 dX10_count_37
  · refine lv_iload_n hx hb dX10_count_0 rfl (lv_at hl 1 rfl) ?_
    refine lv_tableIn (off := 37) (tgt := 38) hx hb dX10_count_1 (by decide) (by decide) rfl (by decide) ?_
    refine lv_aload_n hx hb dX10_count_38 rfl (lv_at hl 0 rfl) ?_
    have hPc := hP.sub (ws' := [(h0, .inr (10, [.ref h6, .ref h1, .ref h7, .ref h8, .ref h9, .ref h2, .ref h4, .int 0, .ref h10, .ref h11, .ref h12, .ref h13, .ref h14, .ref h15, .ref h16, .int 0, .int 0, .int 0, .ref h17, .ref h18, .int 0, .int 0, .int 0, .ref h3, .ref h5, .ref h19, .ref h20, .ref h21, .ref h22, .ref h23, .int 0, .ref h24, .int 0, .ref h25])), (h2, .inl (cI, 5, .inl (fun _ => 0))), (h3, .inl (cI, 5, .inl (fun _ => 0))), (h4, .inl (cI, 5, .inl (fun _ => 0))), (h5, .inl (cI, 5, .inl (fun _ => 0)))]) [0, 2, 3, 4, 5] rfl
    have hDc := hD.sub (ws' := [(h0, .inr (10, [.ref h6, .ref h1, .ref h7, .ref h8, .ref h9, .ref h2, .ref h4, .int 0, .ref h10, .ref h11, .ref h12, .ref h13, .ref h14, .ref h15, .ref h16, .int 0, .int 0, .int 0, .ref h17, .ref h18, .int 0, .int 0, .int 0, .ref h3, .ref h5, .ref h19, .ref h20, .ref h21, .ref h22, .ref h23, .int 0, .ref h24, .int 0, .ref h25])), (h2, .inl (cI, 5, .inl (fun _ => 0))), (h3, .inl (cI, 5, .inl (fun _ => 0))), (h4, .inl (cI, 5, .inl (fun _ => 0))), (h5, .inl (cI, 5, .inl (fun _ => 0)))]) [0, 2, 3, 4, 5] (by decide) rfl
    have hFc := va_free (wc := [(h0, .inr (10, [.ref h6, .ref h1, .ref h7, .ref h8, .ref h9, .ref h2, .ref h4, .int 0, .ref h10, .ref h11, .ref h12, .ref h13, .ref h14, .ref h15, .ref h16, .int 0, .int 0, .int 0, .ref h17, .ref h18, .int 0, .int 0, .int 0, .ref h3, .ref h5, .ref h19, .ref h20, .ref h21, .ref h22, .ref h23, .int 0, .ref h24, .int 0, .ref h25])), (h2, .inl (cI, 5, .inl (fun _ => 0))), (h3, .inl (cI, 5, .inl (fun _ => 0))), (h4, .inl (cI, 5, .inl (fun _ => 0))), (h5, .inl (cI, 5, .inl (fun _ => 0)))]) hD hS hA [0, 2, 3, 4, 5] rfl
    refine va_callv (va_runV (As := []) (rest := []) ⟨hx, hb, hml, hown, hts⟩ (k_X10_look l D cC cI cZ h0 h2 h3 h4 h5 h6 h1 h7 h8 h9 h10 h11 h12 h13 h14 h15 h16 h17 h18 h19 h20 h21 h22 h23 h24 h25 s.heap.size ) (cwV (C := RX10) 0 hts (goodIn_app (goodIn_of _ (by decide +kernel)) gc_k_X10_count_k_X10_look) rfl rfl rfl (by decide +kernel) ⟨(Nat.le_of_ble_eq_true rfl), (Nat.le_of_ble_eq_true rfl)⟩) (kPreV hK hPc hDc (va_recv hK hPc (ci := 10) (q0 := 0) rfl rfl)) rfl rfl hl.1 rfl (lv_room (Nat.le_of_ble_eq_true rfl)) dX10_count_39 ⟨(Nat.le_of_ble_eq_true rfl), (Nat.le_of_ble_eq_true rfl)⟩) hS (fun q _ h => hFc q h) hFc (fun u t H1 locs ht hvm hw hB hz1 hk1 hS => ?_)
    obtain ⟨hP1, hD1⟩ := hB
    rw [ht] at hP1
    obtain ⟨hP, hD⟩ := va_join (wr := [(h1, .inl (cI, 9, .inl (upd (upd (upd (fun _ => 0) (Int32.toNatClampNeg 3) 5) (Int32.toNatClampNeg 4) 9) (Int32.toNatClampNeg 7) 1))), (h6, .inl (cI, 7, .inl (fun _ => 0)))]) (w1 := [(h0, .inr (10, [.ref h6, .ref h1, .ref h7, .ref h8, .ref h9, .ref h2, .ref h4, .int 0, .ref h10, .ref h11, .ref h12, .ref h13, .ref h14, .ref h15, .ref h16, .int 0, .int 0, .int 0, .ref h17, .ref h18, .int 0, .int 0, .int 0, .ref h3, .ref h5, .ref h19, .ref h20, .ref h21, .ref h22, .ref h23, .int 0, .ref h24, .int 0, .ref h25])), (h2, .inl (cI, 5, .inl (fun _ => 0))), (h3, .inl (cI, 5, .inl (fun _ => 0))), (h4, .inl (cI, 5, .inl (fun _ => 0))), (h5, .inl (cI, 5, .inl (fun _ => 0)))]) hP hD [0, 2, 3, 4, 5] [1, 6] rfl rfl (by decide) (by decide) hk1 hFc hP1 hD1
    generalize H1 = H at hP hS ⊢
    have hP : va_P D vwCl [(h1, .inl (cI, 9, .inl (upd (upd (upd (fun _ => 0) (Int32.toNatClampNeg 3) 5) (Int32.toNatClampNeg 4) 9) (Int32.toNatClampNeg 7) 1))), (h6, .inl (cI, 7, .inl (fun _ => 0))), (h0, .inr (10, [.ref h6, .ref h1, .ref h7, .ref h8, .ref h9, .ref h2, .ref h4, .int 0, .ref h10, .ref h11, .ref h12, .ref h13, .ref h14, .ref h15, .ref h16, .int 0, .int 0, .int 0, .ref h17, .ref h18, .int 0, .int 0, .int 0, .ref h3, .ref h5, .ref h19, .ref h20, .ref h21, .ref h22, .ref h23, .int 0, .ref h24, .int 0, .ref h25])), (h2, .inl (cI, 5, .inl (fun _ => 0))), (h3, .inl (cI, 5, .inl (fun _ => 0))), (h4, .inl (cI, 5, .inl (fun _ => 0))), (h5, .inl (cI, 5, .inl (fun _ => 0)))] H := hP
    have hD : va_D A [(h1, .inl (cI, 9, .inl (upd (upd (upd (fun _ => 0) (Int32.toNatClampNeg 3) 5) (Int32.toNatClampNeg 4) 9) (Int32.toNatClampNeg 7) 1))), (h6, .inl (cI, 7, .inl (fun _ => 0))), (h0, .inr (10, [.ref h6, .ref h1, .ref h7, .ref h8, .ref h9, .ref h2, .ref h4, .int 0, .ref h10, .ref h11, .ref h12, .ref h13, .ref h14, .ref h15, .ref h16, .int 0, .int 0, .int 0, .ref h17, .ref h18, .int 0, .int 0, .int 0, .ref h3, .ref h5, .ref h19, .ref h20, .ref h21, .ref h22, .ref h23, .int 0, .ref h24, .int 0, .ref h25])), (h2, .inl (cI, 5, .inl (fun _ => 0))), (h3, .inl (cI, 5, .inl (fun _ => 0))), (h4, .inl (cI, 5, .inl (fun _ => 0))), (h5, .inl (cI, 5, .inl (fun _ => 0)))] := hD
    refine lv_aload_n hx hb dX10_count_42 rfl (lv_at hl 0 rfl) ?_
    refine lv_iconst (v := (-1)) hx hb dX10_count_43 (by decide) ?_
    have hPc := hP.sub (ws' := [(h0, .inr (10, [.ref h6, .ref h1, .ref h7, .ref h8, .ref h9, .ref h2, .ref h4, .int 0, .ref h10, .ref h11, .ref h12, .ref h13, .ref h14, .ref h15, .ref h16, .int 0, .int 0, .int 0, .ref h17, .ref h18, .int 0, .int 0, .int 0, .ref h3, .ref h5, .ref h19, .ref h20, .ref h21, .ref h22, .ref h23, .int 0, .ref h24, .int 0, .ref h25])), (h1, .inl (cI, 9, .inl (upd (upd (upd (fun _ => 0) (Int32.toNatClampNeg 3) 5) (Int32.toNatClampNeg 4) 9) (Int32.toNatClampNeg 7) 1)))]) [2, 0] rfl
    have hDc := hD.sub (ws' := [(h0, .inr (10, [.ref h6, .ref h1, .ref h7, .ref h8, .ref h9, .ref h2, .ref h4, .int 0, .ref h10, .ref h11, .ref h12, .ref h13, .ref h14, .ref h15, .ref h16, .int 0, .int 0, .int 0, .ref h17, .ref h18, .int 0, .int 0, .int 0, .ref h3, .ref h5, .ref h19, .ref h20, .ref h21, .ref h22, .ref h23, .int 0, .ref h24, .int 0, .ref h25])), (h1, .inl (cI, 9, .inl (upd (upd (upd (fun _ => 0) (Int32.toNatClampNeg 3) 5) (Int32.toNatClampNeg 4) 9) (Int32.toNatClampNeg 7) 1)))]) [2, 0] (by decide) rfl
    refine va_calli (va_runV (As := [.int (-1)]) (rest := []) ⟨hx, hb, hml, hown, hts⟩ (k_X10_mays l D cC cI cZ h0 h1 h6 h7 h8 h9 h2 h4 h10 h11 h12 h13 h14 h15 h16 h17 h18 h3 h5 h19 h20 h21 h22 h23 h24 h25 H.size ) (cwV (C := RX10) 1 hts (goodIn_app (goodIn_of _ (by decide +kernel)) gc_k_X10_count_k_X10_mays) rfl rfl rfl (by decide +kernel) ⟨(Nat.le_of_ble_eq_true rfl), (Nat.le_of_ble_eq_true rfl)⟩) (kPreV hK hPc hDc (va_recv hK hPc (ci := 10) (q0 := 0) rfl rfl)) rfl rfl hl.1 rfl (lv_room (Nat.le_of_ble_eq_true rfl)) dX10_count_44 ⟨(Nat.le_of_ble_eq_true rfl), (Nat.le_of_ble_eq_true rfl)⟩) hS (fun q _ h => False.elim h) (fun q h => False.elim h) (fun r1 u t H1 locs ht hvm hw hB hz1 hk1 hS => ?_)
    have hP := hP.kept (H1 := H1) (fun k q hk => hk1 q.1 (hP k q hk).lt (fun h => h))
    generalize H1 = H at hP hS ⊢
    have hw : r1 = 0 := hw
    subst hw
    refine W.widen (k := 0) (n := 0) (Nat.le_of_ble_eq_true rfl) (Nat.le_of_ble_eq_true rfl) ?_
    exact W.iret (v := 0) hx hb hr (fun t ht hW => ⟨⟨0, (), rfl, (by decide), trivial⟩, hS.F ht⟩) hS.2.2 dX10_count_47
  · refine lv_iload_n hx hb dX10_count_0 rfl (lv_at hl 1 rfl) ?_
    refine lv_tableOut (tgt := 48) hx hb dX10_count_1 (by decide) (by decide) ?_
    refine lv_iload_n hx hb dX10_count_48 rfl (lv_at hl 1 rfl) ?_
    refine lv_if_lt (tgt := 67) hx hb dX10_count_49 (by decide) (fun c => absurd c (by decide)) (fun _ => ?_)
    refine lv_iload_n hx hb dX10_count_52 rfl (lv_at hl 1 rfl) ?_
    refine lv_bipush (v := 7) hx hb dX10_count_53 (by decide) ?_
    refine lv_icmp_ge (tgt := 67) hx hb dX10_count_55 (by decide) (fun _ => ?_) (fun c => absurd (by decide) c)
    refine lv_iload_n hx hb dX10_count_67 rfl (lv_at hl 1 rfl) ?_
    refine lv_bipush (v := 11) hx hb dX10_count_68 (by decide) ?_
    refine lv_icmp_lt (tgt := 91) hx hb dX10_count_70 (by decide) (fun _ => ?_) (fun c => absurd (by decide) c)
    refine lv_bipush (v := (-9)) hx hb dX10_count_91 (by decide) ?_
    refine W.widen (k := 0) (n := 0) (Nat.le_of_ble_eq_true rfl) (Nat.le_of_ble_eq_true rfl) ?_
    exact W.iret (v := (-9)) hx hb hr (fun t ht hW => ⟨⟨(-9), (), rfl, (by decide), trivial⟩, hS.F ht⟩) hS.2.2 dX10_count_93
  · refine lv_iload_n hx hb dX10_count_0 rfl (lv_at hl 1 rfl) ?_
    refine lv_tableOut (tgt := 48) hx hb dX10_count_1 (by decide) (by decide) ?_
    refine lv_iload_n hx hb dX10_count_48 rfl (lv_at hl 1 rfl) ?_
    refine lv_if_lt (tgt := 67) hx hb dX10_count_49 (by decide) (fun c => absurd c (by decide)) (fun _ => ?_)
    refine lv_iload_n hx hb dX10_count_52 rfl (lv_at hl 1 rfl) ?_
    refine lv_bipush (v := 7) hx hb dX10_count_53 (by decide) ?_
    refine lv_icmp_ge (tgt := 67) hx hb dX10_count_55 (by decide) (fun _ => ?_) (fun c => absurd (by decide) c)
    refine lv_iload_n hx hb dX10_count_67 rfl (lv_at hl 1 rfl) ?_
    refine lv_bipush (v := 11) hx hb dX10_count_68 (by decide) ?_
    refine lv_icmp_lt (tgt := 91) hx hb dX10_count_70 (by decide) (fun c => absurd c (by decide)) (fun _ => ?_)
    refine lv_iload_n hx hb dX10_count_73 rfl (lv_at hl 1 rfl) ?_
    refine lv_bipush (v := 16) hx hb dX10_count_74 (by decide) ?_
    refine lv_icmp_gt (tgt := 91) hx hb dX10_count_76 (by decide) (fun c => absurd c (by decide)) (fun _ => ?_)
    refine lv_aload_n hx hb dX10_count_79 rfl (lv_at hl 0 rfl) ?_
    refine va_get (D := D) (ci := 10) (v := .ref h6) (C := RX10) (T := TX10) (N := 34) hx hb hts iw_k_X10_count_X10 hown hK hP 0 rfl rfl 0 (by decide) (hts (.fieldLink RX10 7 "TopTurnedModel" "refused" "[I") (by decide +kernel)) (fun _ h9 => h9) rfl dX10_count_80 ?_
    refine lv_iload_n hx hb dX10_count_83 rfl (lv_at hl 1 rfl) ?_
    refine lv_bipush (v := 10) hx hb dX10_count_84 (by decide) ?_
    refine lv_isub hx hb dX10_count_86 ?_
    refine kt_eq (y := 1) (by decide +kernel) ?_
    refine va_iald (i := 1) hx hb hK hP 6 1 rfl rfl (vp_in_iff.mpr (by decide)) dX10_count_87 ?_
    refine kt_eq (y := 0) (by decide +kernel) ?_
    refine lv_goto (tgt := 93) hx hb dX10_count_88 (by decide) ?_
    refine W.widen (k := 0) (n := 0) (Nat.le_of_ble_eq_true rfl) (Nat.le_of_ble_eq_true rfl) ?_
    exact W.iret (v := 0) hx hb hr (fun t ht hW => ⟨⟨0, (), rfl, (by decide), trivial⟩, hS.F ht⟩) hS.2.2 dX10_count_93
  · refine lv_iload_n hx hb dX10_count_0 rfl (lv_at hl 1 rfl) ?_
    refine lv_tableOut (tgt := 48) hx hb dX10_count_1 (by decide) (by decide) ?_
    refine lv_iload_n hx hb dX10_count_48 rfl (lv_at hl 1 rfl) ?_
    refine lv_if_lt (tgt := 67) hx hb dX10_count_49 (by decide) (fun c => absurd c (by decide)) (fun _ => ?_)
    refine lv_iload_n hx hb dX10_count_52 rfl (lv_at hl 1 rfl) ?_
    refine lv_bipush (v := 7) hx hb dX10_count_53 (by decide) ?_
    refine lv_icmp_ge (tgt := 67) hx hb dX10_count_55 (by decide) (fun _ => ?_) (fun c => absurd (by decide) c)
    refine lv_iload_n hx hb dX10_count_67 rfl (lv_at hl 1 rfl) ?_
    refine lv_bipush (v := 11) hx hb dX10_count_68 (by decide) ?_
    refine lv_icmp_lt (tgt := 91) hx hb dX10_count_70 (by decide) (fun c => absurd c (by decide)) (fun _ => ?_)
    refine lv_iload_n hx hb dX10_count_73 rfl (lv_at hl 1 rfl) ?_
    refine lv_bipush (v := 16) hx hb dX10_count_74 (by decide) ?_
    refine lv_icmp_gt (tgt := 91) hx hb dX10_count_76 (by decide) (fun c => absurd c (by decide)) (fun _ => ?_)
    refine lv_aload_n hx hb dX10_count_79 rfl (lv_at hl 0 rfl) ?_
    refine va_get (D := D) (ci := 10) (v := .ref h6) (C := RX10) (T := TX10) (N := 34) hx hb hts iw_k_X10_count_X10 hown hK hP 0 rfl rfl 0 (by decide) (hts (.fieldLink RX10 7 "TopTurnedModel" "refused" "[I") (by decide +kernel)) (fun _ h9 => h9) rfl dX10_count_80 ?_
    refine lv_iload_n hx hb dX10_count_83 rfl (lv_at hl 1 rfl) ?_
    refine lv_bipush (v := 10) hx hb dX10_count_84 (by decide) ?_
    refine lv_isub hx hb dX10_count_86 ?_
    refine kt_eq (y := 2) (by decide +kernel) ?_
    refine va_iald (i := 2) hx hb hK hP 6 1 rfl rfl (vp_in_iff.mpr (by decide)) dX10_count_87 ?_
    refine kt_eq (y := 0) (by decide +kernel) ?_
    refine lv_goto (tgt := 93) hx hb dX10_count_88 (by decide) ?_
    refine W.widen (k := 0) (n := 0) (Nat.le_of_ble_eq_true rfl) (Nat.le_of_ble_eq_true rfl) ?_
    exact W.iret (v := 0) hx hb hr (fun t ht hW => ⟨⟨0, (), rfl, (by decide), trivial⟩, hS.F ht⟩) hS.2.2 dX10_count_93
  · refine lv_iload_n hx hb dX10_count_0 rfl (lv_at hl 1 rfl) ?_
    refine lv_tableOut (tgt := 48) hx hb dX10_count_1 (by decide) (by decide) ?_
    refine lv_iload_n hx hb dX10_count_48 rfl (lv_at hl 1 rfl) ?_
    refine lv_if_lt (tgt := 67) hx hb dX10_count_49 (by decide) (fun c => absurd c (by decide)) (fun _ => ?_)
    refine lv_iload_n hx hb dX10_count_52 rfl (lv_at hl 1 rfl) ?_
    refine lv_bipush (v := 7) hx hb dX10_count_53 (by decide) ?_
    refine lv_icmp_ge (tgt := 67) hx hb dX10_count_55 (by decide) (fun _ => ?_) (fun c => absurd (by decide) c)
    refine lv_iload_n hx hb dX10_count_67 rfl (lv_at hl 1 rfl) ?_
    refine lv_bipush (v := 11) hx hb dX10_count_68 (by decide) ?_
    refine lv_icmp_lt (tgt := 91) hx hb dX10_count_70 (by decide) (fun c => absurd c (by decide)) (fun _ => ?_)
    refine lv_iload_n hx hb dX10_count_73 rfl (lv_at hl 1 rfl) ?_
    refine lv_bipush (v := 16) hx hb dX10_count_74 (by decide) ?_
    refine lv_icmp_gt (tgt := 91) hx hb dX10_count_76 (by decide) (fun c => absurd c (by decide)) (fun _ => ?_)
    refine lv_aload_n hx hb dX10_count_79 rfl (lv_at hl 0 rfl) ?_
    refine va_get (D := D) (ci := 10) (v := .ref h6) (C := RX10) (T := TX10) (N := 34) hx hb hts iw_k_X10_count_X10 hown hK hP 0 rfl rfl 0 (by decide) (hts (.fieldLink RX10 7 "TopTurnedModel" "refused" "[I") (by decide +kernel)) (fun _ h9 => h9) rfl dX10_count_80 ?_
    refine lv_iload_n hx hb dX10_count_83 rfl (lv_at hl 1 rfl) ?_
    refine lv_bipush (v := 10) hx hb dX10_count_84 (by decide) ?_
    refine lv_isub hx hb dX10_count_86 ?_
    refine kt_eq (y := 3) (by decide +kernel) ?_
    refine va_iald (i := 3) hx hb hK hP 6 1 rfl rfl (vp_in_iff.mpr (by decide)) dX10_count_87 ?_
    refine kt_eq (y := 0) (by decide +kernel) ?_
    refine lv_goto (tgt := 93) hx hb dX10_count_88 (by decide) ?_
    refine W.widen (k := 0) (n := 0) (Nat.le_of_ble_eq_true rfl) (Nat.le_of_ble_eq_true rfl) ?_
    exact W.iret (v := 0) hx hb hr (fun t ht hW => ⟨⟨0, (), rfl, (by decide), trivial⟩, hS.F ht⟩) hS.2.2 dX10_count_93
  · refine lv_iload_n hx hb dX10_count_0 rfl (lv_at hl 1 rfl) ?_
    refine lv_tableOut (tgt := 48) hx hb dX10_count_1 (by decide) (by decide) ?_
    refine lv_iload_n hx hb dX10_count_48 rfl (lv_at hl 1 rfl) ?_
    refine lv_if_lt (tgt := 67) hx hb dX10_count_49 (by decide) (fun c => absurd c (by decide)) (fun _ => ?_)
    refine lv_iload_n hx hb dX10_count_52 rfl (lv_at hl 1 rfl) ?_
    refine lv_bipush (v := 7) hx hb dX10_count_53 (by decide) ?_
    refine lv_icmp_ge (tgt := 67) hx hb dX10_count_55 (by decide) (fun _ => ?_) (fun c => absurd (by decide) c)
    refine lv_iload_n hx hb dX10_count_67 rfl (lv_at hl 1 rfl) ?_
    refine lv_bipush (v := 11) hx hb dX10_count_68 (by decide) ?_
    refine lv_icmp_lt (tgt := 91) hx hb dX10_count_70 (by decide) (fun c => absurd c (by decide)) (fun _ => ?_)
    refine lv_iload_n hx hb dX10_count_73 rfl (lv_at hl 1 rfl) ?_
    refine lv_bipush (v := 16) hx hb dX10_count_74 (by decide) ?_
    refine lv_icmp_gt (tgt := 91) hx hb dX10_count_76 (by decide) (fun c => absurd c (by decide)) (fun _ => ?_)
    refine lv_aload_n hx hb dX10_count_79 rfl (lv_at hl 0 rfl) ?_
    refine va_get (D := D) (ci := 10) (v := .ref h6) (C := RX10) (T := TX10) (N := 34) hx hb hts iw_k_X10_count_X10 hown hK hP 0 rfl rfl 0 (by decide) (hts (.fieldLink RX10 7 "TopTurnedModel" "refused" "[I") (by decide +kernel)) (fun _ h9 => h9) rfl dX10_count_80 ?_
    refine lv_iload_n hx hb dX10_count_83 rfl (lv_at hl 1 rfl) ?_
    refine lv_bipush (v := 10) hx hb dX10_count_84 (by decide) ?_
    refine lv_isub hx hb dX10_count_86 ?_
    refine kt_eq (y := 4) (by decide +kernel) ?_
    refine va_iald (i := 4) hx hb hK hP 6 1 rfl rfl (vp_in_iff.mpr (by decide)) dX10_count_87 ?_
    refine kt_eq (y := 0) (by decide +kernel) ?_
    refine lv_goto (tgt := 93) hx hb dX10_count_88 (by decide) ?_
    refine W.widen (k := 0) (n := 0) (Nat.le_of_ble_eq_true rfl) (Nat.le_of_ble_eq_true rfl) ?_
    exact W.iret (v := 0) hx hb hr (fun t ht hW => ⟨⟨0, (), rfl, (by decide), trivial⟩, hS.F ht⟩) hS.2.2 dX10_count_93
  · refine lv_iload_n hx hb dX10_count_0 rfl (lv_at hl 1 rfl) ?_
    refine lv_tableOut (tgt := 48) hx hb dX10_count_1 (by decide) (by decide) ?_
    refine lv_iload_n hx hb dX10_count_48 rfl (lv_at hl 1 rfl) ?_
    refine lv_if_lt (tgt := 67) hx hb dX10_count_49 (by decide) (fun c => absurd c (by decide)) (fun _ => ?_)
    refine lv_iload_n hx hb dX10_count_52 rfl (lv_at hl 1 rfl) ?_
    refine lv_bipush (v := 7) hx hb dX10_count_53 (by decide) ?_
    refine lv_icmp_ge (tgt := 67) hx hb dX10_count_55 (by decide) (fun _ => ?_) (fun c => absurd (by decide) c)
    refine lv_iload_n hx hb dX10_count_67 rfl (lv_at hl 1 rfl) ?_
    refine lv_bipush (v := 11) hx hb dX10_count_68 (by decide) ?_
    refine lv_icmp_lt (tgt := 91) hx hb dX10_count_70 (by decide) (fun c => absurd c (by decide)) (fun _ => ?_)
    refine lv_iload_n hx hb dX10_count_73 rfl (lv_at hl 1 rfl) ?_
    refine lv_bipush (v := 16) hx hb dX10_count_74 (by decide) ?_
    refine lv_icmp_gt (tgt := 91) hx hb dX10_count_76 (by decide) (fun c => absurd c (by decide)) (fun _ => ?_)
    refine lv_aload_n hx hb dX10_count_79 rfl (lv_at hl 0 rfl) ?_
    refine va_get (D := D) (ci := 10) (v := .ref h6) (C := RX10) (T := TX10) (N := 34) hx hb hts iw_k_X10_count_X10 hown hK hP 0 rfl rfl 0 (by decide) (hts (.fieldLink RX10 7 "TopTurnedModel" "refused" "[I") (by decide +kernel)) (fun _ h9 => h9) rfl dX10_count_80 ?_
    refine lv_iload_n hx hb dX10_count_83 rfl (lv_at hl 1 rfl) ?_
    refine lv_bipush (v := 10) hx hb dX10_count_84 (by decide) ?_
    refine lv_isub hx hb dX10_count_86 ?_
    refine kt_eq (y := 5) (by decide +kernel) ?_
    refine va_iald (i := 5) hx hb hK hP 6 1 rfl rfl (vp_in_iff.mpr (by decide)) dX10_count_87 ?_
    refine kt_eq (y := 0) (by decide +kernel) ?_
    refine lv_goto (tgt := 93) hx hb dX10_count_88 (by decide) ?_
    refine W.widen (k := 0) (n := 0) (Nat.le_of_ble_eq_true rfl) (Nat.le_of_ble_eq_true rfl) ?_
    exact W.iret (v := 0) hx hb hr (fun t ht hW => ⟨⟨0, (), rfl, (by decide), trivial⟩, hS.F ht⟩) hS.2.2 dX10_count_93
  · refine lv_iload_n hx hb dX10_count_0 rfl (lv_at hl 1 rfl) ?_
    refine lv_tableOut (tgt := 48) hx hb dX10_count_1 (by decide) (by decide) ?_
    refine lv_iload_n hx hb dX10_count_48 rfl (lv_at hl 1 rfl) ?_
    refine lv_if_lt (tgt := 67) hx hb dX10_count_49 (by decide) (fun c => absurd c (by decide)) (fun _ => ?_)
    refine lv_iload_n hx hb dX10_count_52 rfl (lv_at hl 1 rfl) ?_
    refine lv_bipush (v := 7) hx hb dX10_count_53 (by decide) ?_
    refine lv_icmp_ge (tgt := 67) hx hb dX10_count_55 (by decide) (fun _ => ?_) (fun c => absurd (by decide) c)
    refine lv_iload_n hx hb dX10_count_67 rfl (lv_at hl 1 rfl) ?_
    refine lv_bipush (v := 11) hx hb dX10_count_68 (by decide) ?_
    refine lv_icmp_lt (tgt := 91) hx hb dX10_count_70 (by decide) (fun c => absurd c (by decide)) (fun _ => ?_)
    refine lv_iload_n hx hb dX10_count_73 rfl (lv_at hl 1 rfl) ?_
    refine lv_bipush (v := 16) hx hb dX10_count_74 (by decide) ?_
    refine lv_icmp_gt (tgt := 91) hx hb dX10_count_76 (by decide) (fun c => absurd c (by decide)) (fun _ => ?_)
    refine lv_aload_n hx hb dX10_count_79 rfl (lv_at hl 0 rfl) ?_
    refine va_get (D := D) (ci := 10) (v := .ref h6) (C := RX10) (T := TX10) (N := 34) hx hb hts iw_k_X10_count_X10 hown hK hP 0 rfl rfl 0 (by decide) (hts (.fieldLink RX10 7 "TopTurnedModel" "refused" "[I") (by decide +kernel)) (fun _ h9 => h9) rfl dX10_count_80 ?_
    refine lv_iload_n hx hb dX10_count_83 rfl (lv_at hl 1 rfl) ?_
    refine lv_bipush (v := 10) hx hb dX10_count_84 (by decide) ?_
    refine lv_isub hx hb dX10_count_86 ?_
    refine kt_eq (y := 6) (by decide +kernel) ?_
    refine va_iald (i := 6) hx hb hK hP 6 1 rfl rfl (vp_in_iff.mpr (by decide)) dX10_count_87 ?_
    refine kt_eq (y := 0) (by decide +kernel) ?_
    refine lv_goto (tgt := 93) hx hb dX10_count_88 (by decide) ?_
    refine W.widen (k := 0) (n := 0) (Nat.le_of_ble_eq_true rfl) (Nat.le_of_ble_eq_true rfl) ?_
    exact W.iret (v := 0) hx hb hr (fun t ht hW => ⟨⟨0, (), rfl, (by decide), trivial⟩, hS.F ht⟩) hS.2.2 dX10_count_93
  · refine lv_iload_n hx hb dX10_count_0 rfl (lv_at hl 1 rfl) ?_
    refine lv_tableOut (tgt := 48) hx hb dX10_count_1 (by omega) (by decide) ?_
    refine lv_iload_n hx hb dX10_count_48 rfl (lv_at hl 1 rfl) ?_
    refine lv_if_lt (tgt := 67) hx hb dX10_count_49 (by decide) (fun _ => ?_) (fun c => absurd (by rw [fa_lt]; have g0 := hlo; have e0 : Int32.toInt 0 = 0 := (by decide); omega) c)
    refine lv_iload_n hx hb dX10_count_67 rfl (lv_at hl 1 rfl) ?_
    refine lv_bipush (v := 11) hx hb dX10_count_68 (by decide) ?_
    refine lv_icmp_lt (tgt := 91) hx hb dX10_count_70 (by decide) (fun _ => ?_) (fun c => absurd (by rw [fa_lt]; have g0 := hlo; have e11 : Int32.toInt 11 = 11 := (by decide); omega) c)
    refine lv_bipush (v := (-9)) hx hb dX10_count_91 (by decide) ?_
    refine W.widen (k := 0) (n := 0) (Nat.le_of_ble_eq_true rfl) (Nat.le_of_ble_eq_true rfl) ?_
    exact W.iret (v := (-9)) hx hb hr (fun t ht hW => ⟨⟨(-9), (), rfl, (by rw [if_neg (kne_lo hlo (by decide)), if_neg (kne_lo hlo (by decide)), if_neg (kne_lo hlo (by decide)), if_neg (kne_lo hlo (by decide)), if_neg (kne_lo hlo (by decide)), if_neg (kne_lo hlo (by decide)), if_neg (kne_lo hlo (by decide)), if_neg (kne_lo hlo (by decide)), if_neg (kne_lo hlo (by decide)), if_neg (kne_lo hlo (by decide)), if_neg (kne_lo hlo (by decide)), if_neg (kne_lo hlo (by decide)), if_neg (kne_lo hlo (by decide)), if_neg (kne_lo hlo (by decide)), if_neg (kne_lo hlo (by decide)), if_neg (kne_lo hlo (by decide)), if_neg (kne_lo hlo (by decide))]), trivial⟩, hS.F ht⟩) hS.2.2 dX10_count_93
  · refine lv_iload_n hx hb dX10_count_0 rfl (lv_at hl 1 rfl) ?_
    refine lv_tableOut (tgt := 48) hx hb dX10_count_1 (by omega) (by decide) ?_
    refine lv_iload_n hx hb dX10_count_48 rfl (lv_at hl 1 rfl) ?_
    refine lv_if_lt (tgt := 67) hx hb dX10_count_49 (by decide) (fun c => absurd c (by rw [fa_lt]; have g0 := hhi; have e0 : Int32.toInt 0 = 0 := (by decide); omega)) (fun _ => ?_)
    refine lv_iload_n hx hb dX10_count_52 rfl (lv_at hl 1 rfl) ?_
    refine lv_bipush (v := 7) hx hb dX10_count_53 (by decide) ?_
    refine lv_icmp_ge (tgt := 67) hx hb dX10_count_55 (by decide) (fun _ => ?_) (fun c => absurd (by rw [fa_le]; have g0 := hhi; have e7 : Int32.toInt 7 = 7 := (by decide); omega) c)
    refine lv_iload_n hx hb dX10_count_67 rfl (lv_at hl 1 rfl) ?_
    refine lv_bipush (v := 11) hx hb dX10_count_68 (by decide) ?_
    refine lv_icmp_lt (tgt := 91) hx hb dX10_count_70 (by decide) (fun c => absurd c (by rw [fa_lt]; have g0 := hhi; have e11 : Int32.toInt 11 = 11 := (by decide); omega)) (fun _ => ?_)
    refine lv_iload_n hx hb dX10_count_73 rfl (lv_at hl 1 rfl) ?_
    refine lv_bipush (v := 16) hx hb dX10_count_74 (by decide) ?_
    refine lv_icmp_gt (tgt := 91) hx hb dX10_count_76 (by decide) (fun _ => ?_) (fun c => absurd (by rw [fa_lt]; have g0 := hhi; have e16 : Int32.toInt 16 = 16 := (by decide); omega) c)
    refine lv_bipush (v := (-9)) hx hb dX10_count_91 (by decide) ?_
    refine W.widen (k := 0) (n := 0) (Nat.le_of_ble_eq_true rfl) (Nat.le_of_ble_eq_true rfl) ?_
    exact W.iret (v := (-9)) hx hb hr (fun t ht hW => ⟨⟨(-9), (), rfl, (by rw [if_neg (kne_hi hhi (by decide)), if_neg (kne_hi hhi (by decide)), if_neg (kne_hi hhi (by decide)), if_neg (kne_hi hhi (by decide)), if_neg (kne_hi hhi (by decide)), if_neg (kne_hi hhi (by decide)), if_neg (kne_hi hhi (by decide)), if_neg (kne_hi hhi (by decide)), if_neg (kne_hi hhi (by decide)), if_neg (kne_hi hhi (by decide)), if_neg (kne_hi hhi (by decide)), if_neg (kne_hi hhi (by decide)), if_neg (kne_hi hhi (by decide)), if_neg (kne_hi hhi (by decide)), if_neg (kne_hi hhi (by decide)), if_neg (kne_hi hhi (by decide)), if_neg (kne_hi hhi (by decide))]), trivial⟩, hS.F ht⟩) hS.2.2 dX10_count_93
