def sw_k_X8_howManyBehind : List Cond := .code yX8_howManyBehind cX8_howManyBehind 5 (some .int) :: (([.methodLink RX8 38 yX8_fillFirst, .instanceMethod yX8_fillFirst, .selects RX8 yX8_fillFirst yX8_fillFirst, .initialized RX8, .fieldLink RX8 33 "TopTurned$Walks" "first" "[I", .fieldLink RX8 9 "TopTurned$Walks" "space" "LTopTurned$Space;", .fieldLink RX8 48 "TopTurned$Space" "states" "I"] : List Cond) ++ (sw_k_X8_fillFirst ++ (wsX80 ++ (wsX50 ++ (([] : List Cond))))))
theorem gd_k_X8_howManyBehind : ∀ w ∈ sw_k_X8_howManyBehind, (w.onTables && w.keeps) = true ∨ ∃ ty, w = .arrayClass ty := List.forall_mem_cons.mpr ⟨good_of_word rfl, List.forall_mem_append.mpr ⟨fun w h => good_of_word (List.all_eq_true.mp (by decide +kernel : (([.methodLink RX8 38 yX8_fillFirst, .instanceMethod yX8_fillFirst, .selects RX8 yX8_fillFirst yX8_fillFirst, .initialized RX8, .fieldLink RX8 33 "TopTurned$Walks" "first" "[I", .fieldLink RX8 9 "TopTurned$Walks" "space" "LTopTurned$Space;", .fieldLink RX8 48 "TopTurned$Space" "states" "I"] : List Cond)).all goodWord = true) w h), List.forall_mem_append.mpr ⟨gd_k_X8_fillFirst, List.forall_mem_append.mpr ⟨gw_X8, List.forall_mem_append.mpr ⟨gw_X5, fun _ h => absurd h List.not_mem_nil⟩⟩⟩⟩⟩
theorem gc_k_X8_howManyBehind_k_X8_fillFirst : GoodIn sw_k_X8_howManyBehind sw_k_X8_fillFirst := fun w h => ⟨List.mem_cons_of_mem _ (List.mem_append_right _ (List.mem_append_left _ h)), gd_k_X8_fillFirst w h⟩
theorem iw_k_X8_howManyBehind_X8 : ∀ w ∈ wsX80, w ∈ sw_k_X8_howManyBehind := fun _ h => List.mem_cons_of_mem _ (List.mem_append_right _ (List.mem_append_right _ (List.mem_append_left _ h)))
theorem iw_k_X8_howManyBehind_X5 : ∀ w ∈ wsX50, w ∈ sw_k_X8_howManyBehind := fun _ h => List.mem_cons_of_mem _ (List.mem_append_right _ (List.mem_append_right _ (List.mem_append_right _ (List.mem_append_left _ h))))
set_option maxHeartbeats 4000000 in
set_option maxRecDepth 100000 in
theorem k_X8_howManyBehind (l : Launch) (D : va_G) (cC cI cZ : ClassId) (h0 h1 h2 h3 h4 h5 h6 h7 h8 h9 h10 h11 h12 : Nat) (sz : Nat) : Met l yX8_howManyBehind sw_k_X8_howManyBehind ({ frames := 4, cells := 0, slots := 0, locals := 200 }) (va_Pc [.ref h0, .int 0, .int 0] (kPre D cC cI cZ [(h0, .inr (8, [.ref h1, .ref h3, .ref h4, .ref h5, .ref h2, .ref h6])), (h1, .inr (5, [.int 0, .int 1, .int 1, .int 1, .int 0, .ref h7, .ref h8, .ref h9, .ref h10, .ref h11, .ref h12])), (h2, .inl (cI, 3840, .inl (fun _ => 0)))] sz)) (va_Qi (fun (r : Int32) (_ : Unit) => r = 1) (fun _ t => va_P D vwCl [(h0, .inr (8, [.ref h1, .ref h3, .ref h4, .ref h5, .ref h2, .ref h6])), (h1, .inr (5, [.int 0, .int 1, .int 1, .int 1, .int 0, .ref h7, .ref h8, .ref h9, .ref h10, .ref h11, .ref h12])), (h2, .inl (cI, 3840, .inl (upd (fun _ => 0) (Int32.toNatClampNeg 0) 1)))] t.heap ∧ va_D (va_A [(h0, .inr (8, [.ref h1, .ref h3, .ref h4, .ref h5, .ref h2, .ref h6])), (h1, .inr (5, [.int 0, .int 1, .int 1, .int 1, .int 0, .ref h7, .ref h8, .ref h9, .ref h10, .ref h11, .ref h12])), (h2, .inl (cI, 3840, .inl (fun _ => 0)))] sz) [(h0, .inr (8, [.ref h1, .ref h3, .ref h4, .ref h5, .ref h2, .ref h6])), (h1, .inr (5, [.int 0, .int 1, .int 1, .int 1, .int 0, .ref h7, .ref h8, .ref h9, .ref h10, .ref h11, .ref h12])), (h2, .inl (cI, 3840, .inl (upd (fun _ => 0) (Int32.toNatClampNeg 0) 1)))]) (va_A [(h0, .inr (8, [.ref h1, .ref h3, .ref h4, .ref h5, .ref h2, .ref h6])), (h1, .inr (5, [.int 0, .int 1, .int 1, .int 1, .int 0, .ref h7, .ref h8, .ref h9, .ref h10, .ref h11, .ref h12])), (h2, .inl (cI, 3840, .inl (fun _ => 0)))] sz)) 0 0 (va_A [(h0, .inr (8, [.ref h1, .ref h3, .ref h4, .ref h5, .ref h2, .ref h6])), (h1, .inr (5, [.int 0, .int 1, .int 1, .int 1, .int 0, .ref h7, .ref h8, .ref h9, .ref h10, .ref h11, .ref h12])), (h2, .inl (cI, 3840, .inl (fun _ => 0)))] sz) := by
  refine Met.ofW (cc := cX8_howManyBehind) (maxL := 5) (ret := (some .int)) (by decide) rfl ?_
  intro p e s m args below meth c s₁ B hml hv
  obtain ⟨rfl, hsz, hP, hK, hD0⟩ := hv
  have hx := B.exec
  have hb := B.bytes
  have hr := B.returns
  have hts := atoms_spec (ws := sw_k_X8_howManyBehind) B.pre
  have hown : s.vm.findClass RX8 = some m.cls := findClass_of_methodNamed B.named
  have hlocks := B.notSynchronized
  subst hsz
  have hD := hD0.self (sz := s.heap.size)
  generalize hAe : va_A [(h0, .inr (8, [.ref h1, .ref h3, .ref h4, .ref h5, .ref h2, .ref h6])), (h1, .inr (5, [.int 0, .int 1, .int 1, .int 1, .int 0, .ref h7, .ref h8, .ref h9, .ref h10, .ref h11, .ref h12])), (h2, .inl (cI, 3840, .inl (fun _ => 0)))] s.heap.size = A at hD ⊢
  have hA : ∀ q : Nat, s.heap.size ≤ q → A q := fun q h => by rw [← hAe]; exact Or.inr h
  have hS : va_S A s.heap s.heap [] := va_S.rf
  have hl := lv_entry ([.ref h0, .int 0, .int 0]) (n := 5) (Nat.le_of_ble_eq_true rfl)
  rw [lg_entry_eq]
  generalize (lg_sl ([.ref h0, .int 0, .int 0]) ++ List.replicate (5 - (lg_sl ([.ref h0, .int 0, .int 0])).length) Slot.unset).toArray = ls at hl ⊢
  have hl : lv_has ls 5 [(0, .ref h0), (1, .int 0), (2, .int 0)] := hl
  refine lv_aload_n hx hb dX8_howManyBehind_0 rfl (lv_at hl 0 rfl) ?_
  refine lv_iconst (v := 0) hx hb dX8_howManyBehind_1 (by decide) ?_
  have hPc := hP.sub (ws' := [(h0, .inr (8, [.ref h1, .ref h3, .ref h4, .ref h5, .ref h2, .ref h6])), (h1, .inr (5, [.int 0, .int 1, .int 1, .int 1, .int 0, .ref h7, .ref h8, .ref h9, .ref h10, .ref h11, .ref h12])), (h2, .inl (cI, 3840, .inl (fun _ => 0)))]) [0, 1, 2] rfl
  have hDc := hD.sub (ws' := [(h0, .inr (8, [.ref h1, .ref h3, .ref h4, .ref h5, .ref h2, .ref h6])), (h1, .inr (5, [.int 0, .int 1, .int 1, .int 1, .int 0, .ref h7, .ref h8, .ref h9, .ref h10, .ref h11, .ref h12])), (h2, .inl (cI, 3840, .inl (fun _ => 0)))]) [0, 1, 2] (by decide) rfl
  have hFc := va_free (wc := [(h0, .inr (8, [.ref h1, .ref h3, .ref h4, .ref h5, .ref h2, .ref h6])), (h1, .inr (5, [.int 0, .int 1, .int 1, .int 1, .int 0, .ref h7, .ref h8, .ref h9, .ref h10, .ref h11, .ref h12])), (h2, .inl (cI, 3840, .inl (fun _ => 0)))]) hD hS hA [0, 1, 2] rfl
  refine va_callv (va_runV (As := [.int 0]) (rest := []) ⟨hx, hb, hml, hown, hts⟩ (k_X8_fillFirst l D cC cI cZ h0 h1 h2 h3 h4 h5 h6 h7 h8 h9 h10 h11 h12 s.heap.size ) (cwV (C := RX8) 1 hts (goodIn_app (goodIn_of _ (by decide +kernel)) gc_k_X8_howManyBehind_k_X8_fillFirst) rfl rfl rfl (by decide +kernel) ⟨(Nat.le_of_ble_eq_true rfl), (Nat.le_of_ble_eq_true rfl)⟩) (kPreV hK hPc hDc (va_recv hK hPc (ci := 8) (q0 := 0) rfl rfl)) rfl rfl hl.1 rfl (lv_room (Nat.le_of_ble_eq_true rfl)) dX8_howManyBehind_2 ⟨(Nat.le_of_ble_eq_true rfl), (Nat.le_of_ble_eq_true rfl)⟩) hS (fun q _ h => hFc q h) hFc (fun u t H1 locs ht hvm hw hB hz1 hk1 hS => ?_)
  obtain ⟨hP1, hD1⟩ := hB
  rw [ht] at hP1
  obtain ⟨hP, hD⟩ := va_join (wr := []) (w1 := [(h0, .inr (8, [.ref h1, .ref h3, .ref h4, .ref h5, .ref h2, .ref h6])), (h1, .inr (5, [.int 0, .int 1, .int 1, .int 1, .int 0, .ref h7, .ref h8, .ref h9, .ref h10, .ref h11, .ref h12])), (h2, .inl (cI, 3840, .inl (fun _ => 0)))]) hP hD [0, 1, 2] [] rfl rfl (by decide) (by decide) hk1 hFc hP1 hD1
  generalize H1 = H at hP hS ⊢
  have hP : va_P D vwCl [(h0, .inr (8, [.ref h1, .ref h3, .ref h4, .ref h5, .ref h2, .ref h6])), (h1, .inr (5, [.int 0, .int 1, .int 1, .int 1, .int 0, .ref h7, .ref h8, .ref h9, .ref h10, .ref h11, .ref h12])), (h2, .inl (cI, 3840, .inl (fun _ => 0)))] H := hP
  have hD : va_D A [(h0, .inr (8, [.ref h1, .ref h3, .ref h4, .ref h5, .ref h2, .ref h6])), (h1, .inr (5, [.int 0, .int 1, .int 1, .int 1, .int 0, .ref h7, .ref h8, .ref h9, .ref h10, .ref h11, .ref h12])), (h2, .inl (cI, 3840, .inl (fun _ => 0)))] := hD
  refine lv_aload_n hx hb dX8_howManyBehind_5 rfl (lv_at hl 0 rfl) ?_
  refine va_get (D := D) (ci := 8) (v := .ref h2) (C := RX8) (T := TX8) (N := 6) hx hb hts iw_k_X8_howManyBehind_X8 hown hK hP 0 rfl rfl 4 (by decide) (hts (.fieldLink RX8 33 "TopTurned$Walks" "first" "[I") (by decide +kernel)) (fun _ h9 => h9) rfl dX8_howManyBehind_6 ?_
  refine lv_iload_n hx hb dX8_howManyBehind_9 rfl (lv_at hl 1 rfl) ?_
  refine lv_iconst (v := 1) hx hb dX8_howManyBehind_10 (by decide) ?_
  refine va_iast (i := 0) (x := 1) hx hb hK hP hD hS 2 1 rfl rfl (vp_in_iff.mpr (by decide)) dX8_howManyBehind_11 (fun H locs hP hD hS => ?_)
  have hP : va_P D vwCl [(h0, .inr (8, [.ref h1, .ref h3, .ref h4, .ref h5, .ref h2, .ref h6])), (h1, .inr (5, [.int 0, .int 1, .int 1, .int 1, .int 0, .ref h7, .ref h8, .ref h9, .ref h10, .ref h11, .ref h12])), (h2, .inl (cI, 3840, .inl (upd (fun _ => 0) (Int32.toNatClampNeg 0) 1)))] H := hP
  have hD : va_D A [(h0, .inr (8, [.ref h1, .ref h3, .ref h4, .ref h5, .ref h2, .ref h6])), (h1, .inr (5, [.int 0, .int 1, .int 1, .int 1, .int 0, .ref h7, .ref h8, .ref h9, .ref h10, .ref h11, .ref h12])), (h2, .inl (cI, 3840, .inl (upd (fun _ => 0) (Int32.toNatClampNeg 0) 1)))] := hD
  refine lv_iconst (v := 1) hx hb dX8_howManyBehind_12 (by decide) ?_
  refine lv_istore_n (lv' := [(3, .int 1), (0, .ref h0), (1, .int 0), (2, .int 0)]) hx hb dX8_howManyBehind_13 rfl hl (by decide) rfl (fun ls hl => ?_)
  refine lv_iload_n hx hb dX8_howManyBehind_14 rfl (lv_at hl 0 rfl) ?_
  refine lv_iload_n hx hb dX8_howManyBehind_15 rfl (lv_at hl 3 rfl) ?_
  refine lv_icmp_gt (tgt := 72) hx hb dX8_howManyBehind_16 (by decide) (fun _ => ?_) (fun c => absurd (by decide) c)
  refine lv_iconst (v := 0) hx hb dX8_howManyBehind_72 (by decide) ?_
  refine lv_istore_n (lv' := [(3, .int 0), (0, .ref h0), (1, .int 0), (2, .int 0)]) hx hb dX8_howManyBehind_73 rfl hl (by decide) rfl (fun ls hl => ?_)
  refine lv_iconst (v := 0) hx hb dX8_howManyBehind_74 (by decide) ?_
  refine lv_istore (lv' := [(4, .int 0), (3, .int 0), (0, .ref h0), (1, .int 0), (2, .int 0)]) hx hb dX8_howManyBehind_75 hl (by decide) rfl (fun ls hl => ?_)
  refine lv_iload hx hb dX8_howManyBehind_77 (lv_at hl 0 rfl) ?_
  refine lv_aload_n hx hb dX8_howManyBehind_79 rfl (lv_at hl 2 rfl) ?_
  refine va_get (D := D) (ci := 8) (v := .ref h1) (C := RX8) (T := TX8) (N := 6) hx hb hts iw_k_X8_howManyBehind_X8 hown hK hP 0 rfl rfl 0 (by decide) (hts (.fieldLink RX8 9 "TopTurned$Walks" "space" "LTopTurned$Space;") (by decide +kernel)) (fun _ h9 => h9) rfl dX8_howManyBehind_80 ?_
  refine va_get (D := D) (ci := 5) (v := .int 1) (C := RX5) (T := TX5) (N := 11) hx hb hts iw_k_X8_howManyBehind_X5 hown hK hP 1 rfl rfl 3 (by decide) (hts (.fieldLink RX8 48 "TopTurned$Space" "states" "I") (by decide +kernel)) (fun _ h9 => h9) rfl dX8_howManyBehind_83 ?_
  refine lv_icmp_ge (tgt := 109) hx hb dX8_howManyBehind_86 (by decide) (fun c => absurd c (by decide)) (fun _ => ?_)
  refine lv_iload_n hx hb dX8_howManyBehind_89 rfl (lv_at hl 1 rfl) ?_
  refine lv_aload_n hx hb dX8_howManyBehind_90 rfl (lv_at hl 2 rfl) ?_
  refine va_get (D := D) (ci := 8) (v := .ref h2) (C := RX8) (T := TX8) (N := 6) hx hb hts iw_k_X8_howManyBehind_X8 hown hK hP 0 rfl rfl 4 (by decide) (hts (.fieldLink RX8 33 "TopTurned$Walks" "first" "[I") (by decide +kernel)) (fun _ h9 => h9) rfl dX8_howManyBehind_91 ?_
  refine lv_iload hx hb dX8_howManyBehind_94 (lv_at hl 0 rfl) ?_
  refine va_iald (i := 0) hx hb hK hP 2 1 rfl rfl (vp_in_iff.mpr (by decide)) dX8_howManyBehind_96 ?_
  refine kt_eq (y := 1) (by decide +kernel) ?_
  refine lv_iload_n hx hb dX8_howManyBehind_97 rfl (lv_at hl 4 rfl) ?_
  refine lv_ishr hx hb dX8_howManyBehind_98 ?_
  refine kt_eq (y := 1) (by decide +kernel) ?_
  refine lv_iconst (v := 1) hx hb dX8_howManyBehind_99 (by decide) ?_
  refine lv_iand hx hb dX8_howManyBehind_100 ?_
  refine kt_eq (y := 1) (by decide +kernel) ?_
  refine lv_iadd hx hb dX8_howManyBehind_101 ?_
  refine kt_eq (y := 1) (by decide +kernel) ?_
  refine lv_istore_n (lv' := [(3, .int 1), (4, .int 0), (0, .ref h0), (1, .int 0), (2, .int 0)]) hx hb dX8_howManyBehind_102 rfl hl (by decide) rfl (fun ls hl => ?_)
  refine lv_iinc (v := 1) (lv' := [(4, .int 1), (3, .int 1), (0, .ref h0), (1, .int 0), (2, .int 0)]) hx hb dX8_howManyBehind_103 hl (k := 1) rfl (by decide) (by decide) rfl (fun ls hl => ?_)
  refine lv_goto (tgt := 77) hx hb dX8_howManyBehind_106 (by decide) ?_
  refine lv_iload hx hb dX8_howManyBehind_77 (lv_at hl 0 rfl) ?_
  refine lv_aload_n hx hb dX8_howManyBehind_79 rfl (lv_at hl 2 rfl) ?_
  refine va_get (D := D) (ci := 8) (v := .ref h1) (C := RX8) (T := TX8) (N := 6) hx hb hts iw_k_X8_howManyBehind_X8 hown hK hP 0 rfl rfl 0 (by decide) (hts (.fieldLink RX8 9 "TopTurned$Walks" "space" "LTopTurned$Space;") (by decide +kernel)) (fun _ h9 => h9) rfl dX8_howManyBehind_80 ?_
  refine va_get (D := D) (ci := 5) (v := .int 1) (C := RX5) (T := TX5) (N := 11) hx hb hts iw_k_X8_howManyBehind_X5 hown hK hP 1 rfl rfl 3 (by decide) (hts (.fieldLink RX8 48 "TopTurned$Space" "states" "I") (by decide +kernel)) (fun _ h9 => h9) rfl dX8_howManyBehind_83 ?_
  refine lv_icmp_ge (tgt := 109) hx hb dX8_howManyBehind_86 (by decide) (fun _ => ?_) (fun c => absurd (by decide) c)
  refine lv_iload_n hx hb dX8_howManyBehind_109 rfl (lv_at hl 1 rfl) ?_
  refine W.widen (k := 0) (n := 0) (Nat.le_of_ble_eq_true rfl) (Nat.le_of_ble_eq_true rfl) ?_
  have hP9 := hP.sub (ws' := [(h0, .inr (8, [.ref h1, .ref h3, .ref h4, .ref h5, .ref h2, .ref h6])), (h1, .inr (5, [.int 0, .int 1, .int 1, .int 1, .int 0, .ref h7, .ref h8, .ref h9, .ref h10, .ref h11, .ref h12])), (h2, .inl (cI, 3840, .inl (upd (fun _ => 0) (Int32.toNatClampNeg 0) 1)))]) [0, 1, 2] rfl
  have hD9 := hD.sub (ws' := [(h0, .inr (8, [.ref h1, .ref h3, .ref h4, .ref h5, .ref h2, .ref h6])), (h1, .inr (5, [.int 0, .int 1, .int 1, .int 1, .int 0, .ref h7, .ref h8, .ref h9, .ref h10, .ref h11, .ref h12])), (h2, .inl (cI, 3840, .inl (upd (fun _ => 0) (Int32.toNatClampNeg 0) 1)))]) [0, 1, 2] (by decide) rfl
  exact W.iret (v := 1) hx hb hr (fun t ht hW => ⟨⟨1, (), rfl, rfl, ⟨by rw [ht]; exact hP9, hD9⟩⟩, hS.F ht⟩) hS.2.2 dX8_howManyBehind_110
def sw_k_X8_markBehind : List Cond := .code yX8_markBehind cX8_markBehind 5 none :: (([.fieldLink RX8 9 "TopTurned$Walks" "space" "LTopTurned$Space;", .methodLink RX8 58 yX5_orderIn, .instanceMethod yX5_orderIn, .selects RX5 yX5_orderIn yX5_orderIn, .initialized RX5, .fieldLink RX8 62 "TopTurned$Space" "turns" "I"] : List Cond) ++ (wsX80 ++ (sw_k_X5_orderIn ++ (wsX50 ++ (([] : List Cond))))))
theorem gd_k_X8_markBehind : ∀ w ∈ sw_k_X8_markBehind, (w.onTables && w.keeps) = true ∨ ∃ ty, w = .arrayClass ty := List.forall_mem_cons.mpr ⟨good_of_word rfl, List.forall_mem_append.mpr ⟨fun w h => good_of_word (List.all_eq_true.mp (by decide +kernel : (([.fieldLink RX8 9 "TopTurned$Walks" "space" "LTopTurned$Space;", .methodLink RX8 58 yX5_orderIn, .instanceMethod yX5_orderIn, .selects RX5 yX5_orderIn yX5_orderIn, .initialized RX5, .fieldLink RX8 62 "TopTurned$Space" "turns" "I"] : List Cond)).all goodWord = true) w h), List.forall_mem_append.mpr ⟨gw_X8, List.forall_mem_append.mpr ⟨gd_k_X5_orderIn, List.forall_mem_append.mpr ⟨gw_X5, fun _ h => absurd h List.not_mem_nil⟩⟩⟩⟩⟩
theorem iw_k_X8_markBehind_X8 : ∀ w ∈ wsX80, w ∈ sw_k_X8_markBehind := fun _ h => List.mem_cons_of_mem _ (List.mem_append_right _ (List.mem_append_left _ h))
theorem gc_k_X8_markBehind_k_X5_orderIn : GoodIn sw_k_X8_markBehind sw_k_X5_orderIn := fun w h => ⟨List.mem_cons_of_mem _ (List.mem_append_right _ (List.mem_append_right _ (List.mem_append_left _ h))), gd_k_X5_orderIn w h⟩
theorem iw_k_X8_markBehind_X5 : ∀ w ∈ wsX50, w ∈ sw_k_X8_markBehind := fun _ h => List.mem_cons_of_mem _ (List.mem_append_right _ (List.mem_append_right _ (List.mem_append_right _ (List.mem_append_left _ h))))
set_option maxHeartbeats 4000000 in
set_option maxRecDepth 100000 in
theorem k_X8_markBehind (l : Launch) (D : va_G) (cC cI cZ : ClassId) (h0 h1 h2 h3 h4 h5 h6 h7 h8 h9 h10 h11 h12 : Nat) (sz : Nat) : Met l yX8_markBehind sw_k_X8_markBehind ({ frames := 4, cells := 0, slots := 0, locals := 200 }) (va_Pc [.ref h0, .int 0, .int 2] (kPre D cC cI cZ [(h0, .inr (8, [.ref h1, .ref h2, .ref h3, .ref h4, .ref h5, .ref h6])), (h1, .inr (5, [.int 0, .int 1, .int 1, .int 1, .int 0, .ref h7, .ref h8, .ref h9, .ref h10, .ref h11, .ref h12]))] sz)) (va_Qv (fun (_ : Unit) => True) (fun _ _ => True) (fun _ => False)) 0 0 (fun _ => False) := by
  refine Met.ofW (cc := cX8_markBehind) (maxL := 5) (ret := none) (by decide) rfl ?_
  intro p e s m args below meth c s₁ B hml hv
  obtain ⟨rfl, hsz, hP, hK, hD0⟩ := hv
  have hx := B.exec
  have hb := B.bytes
  have hr := B.returns
  have hts := atoms_spec (ws := sw_k_X8_markBehind) B.pre
  have hown : s.vm.findClass RX8 = some m.cls := findClass_of_methodNamed B.named
  have hlocks := B.notSynchronized
  subst hsz
  have hD := hD0
  have hS : va_S (fun _ => False) s.heap s.heap [] := va_S.rf
  have hl := lv_entry ([.ref h0, .int 0, .int 2]) (n := 5) (Nat.le_of_ble_eq_true rfl)
  rw [lg_entry_eq]
  generalize (lg_sl ([.ref h0, .int 0, .int 2]) ++ List.replicate (5 - (lg_sl ([.ref h0, .int 0, .int 2])).length) Slot.unset).toArray = ls at hl ⊢
  have hl : lv_has ls 5 [(0, .ref h0), (1, .int 0), (2, .int 2)] := hl
  refine lv_aload_n hx hb dX8_markBehind_0 rfl (lv_at hl 0 rfl) ?_
  refine va_get (D := D) (ci := 8) (v := .ref h1) (C := RX8) (T := TX8) (N := 6) hx hb hts iw_k_X8_markBehind_X8 hown hK hP 0 rfl rfl 0 (by decide) (hts (.fieldLink RX8 9 "TopTurned$Walks" "space" "LTopTurned$Space;") (by decide +kernel)) (fun _ h9 => h9) rfl dX8_markBehind_1 ?_
  refine lv_iload_n hx hb dX8_markBehind_4 rfl (lv_at hl 1 rfl) ?_
  have hPc := hP.sub (ws' := [(h1, .inr (5, [.int 0, .int 1, .int 1, .int 1, .int 0, .ref h7, .ref h8, .ref h9, .ref h10, .ref h11, .ref h12]))]) [1] rfl
  have hDc := hD.sub (ws' := [(h1, .inr (5, [.int 0, .int 1, .int 1, .int 1, .int 0, .ref h7, .ref h8, .ref h9, .ref h10, .ref h11, .ref h12]))]) [1] (by decide) rfl
  refine va_calli (va_runV (As := [.int 0]) (rest := []) ⟨hx, hb, hml, hown, hts⟩ (k_X5_orderIn l D cC cI cZ h1 h7 h8 h9 h10 h11 h12 s.heap.size ) (cwV (C := RX5) 1 hts (goodIn_app (goodIn_of _ (by decide +kernel)) gc_k_X8_markBehind_k_X5_orderIn) rfl rfl rfl (by decide +kernel) ⟨(Nat.le_of_ble_eq_true rfl), (Nat.le_of_ble_eq_true rfl)⟩) (kPreV hK hPc hDc (va_recv hK hPc (ci := 5) (q0 := 0) rfl rfl)) rfl rfl hl.1 rfl (lv_room (Nat.le_of_ble_eq_true rfl)) dX8_markBehind_5 ⟨(Nat.le_of_ble_eq_true rfl), (Nat.le_of_ble_eq_true rfl)⟩) hS (fun q _ h => False.elim h) (fun q h => False.elim h) (fun r1 u t H1 locs ht hvm hw hB hz1 hk1 hS => ?_)
  have hP := hP.kept (H1 := H1) (fun k q hk => hk1 q.1 (hP k q hk).lt (fun h => h))
  generalize H1 = H at hP hS ⊢
  have hw : r1 = 0 := hw
  subst hw
  refine lv_istore_n (lv' := [(3, .int 0), (0, .ref h0), (1, .int 0), (2, .int 2)]) hx hb dX8_markBehind_8 rfl hl (by decide) rfl (fun ls hl => ?_)
  refine lv_iconst (v := 0) hx hb dX8_markBehind_9 (by decide) ?_
  refine lv_istore (lv' := [(4, .int 0), (3, .int 0), (0, .ref h0), (1, .int 0), (2, .int 2)]) hx hb dX8_markBehind_10 hl (by decide) rfl (fun ls hl => ?_)
  refine lv_iload hx hb dX8_markBehind_12 (lv_at hl 0 rfl) ?_
  refine lv_aload_n hx hb dX8_markBehind_14 rfl (lv_at hl 2 rfl) ?_
  refine va_get (D := D) (ci := 8) (v := .ref h1) (C := RX8) (T := TX8) (N := 6) hx hb hts iw_k_X8_markBehind_X8 hown hK hP 0 rfl rfl 0 (by decide) (hts (.fieldLink RX8 9 "TopTurned$Walks" "space" "LTopTurned$Space;") (by decide +kernel)) (fun _ h9 => h9) rfl dX8_markBehind_15 ?_
  refine va_get (D := D) (ci := 5) (v := .int 0) (C := RX5) (T := TX5) (N := 11) hx hb hts iw_k_X8_markBehind_X5 hown hK hP 1 rfl rfl 4 (by decide) (hts (.fieldLink RX8 62 "TopTurned$Space" "turns" "I") (by decide +kernel)) (fun _ h9 => h9) rfl dX8_markBehind_18 ?_
  refine lv_icmp_ge (tgt := 62) hx hb dX8_markBehind_21 (by decide) (fun _ => ?_) (fun c => absurd (by decide) c)
  exact W.vret hx hb hr (fun t ht hW => ⟨⟨(), rfl, trivial, trivial⟩, hS.F ht⟩) hS.2.2 dX8_markBehind_62
def sw_k_X8_howManyBehind_1 : List Cond := .code yX8_howManyBehind cX8_howManyBehind 5 (some .int) :: (([.methodLink RX8 38 yX8_fillFirst, .instanceMethod yX8_fillFirst, .selects RX8 yX8_fillFirst yX8_fillFirst, .initialized RX8, .fieldLink RX8 33 "TopTurned$Walks" "first" "[I", .fieldLink RX8 9 "TopTurned$Walks" "space" "LTopTurned$Space;", .fieldLink RX8 48 "TopTurned$Space" "states" "I", .methodLink RX8 54 yX8_markBehind, .instanceMethod yX8_markBehind, .selects RX8 yX8_markBehind yX8_markBehind] : List Cond) ++ (sw_k_X8_fillFirst ++ (wsX80 ++ (wsX50 ++ (sw_k_X8_markBehind ++ (([] : List Cond)))))))
theorem gd_k_X8_howManyBehind_1 : ∀ w ∈ sw_k_X8_howManyBehind_1, (w.onTables && w.keeps) = true ∨ ∃ ty, w = .arrayClass ty := List.forall_mem_cons.mpr ⟨good_of_word rfl, List.forall_mem_append.mpr ⟨fun w h => good_of_word (List.all_eq_true.mp (by decide +kernel : (([.methodLink RX8 38 yX8_fillFirst, .instanceMethod yX8_fillFirst, .selects RX8 yX8_fillFirst yX8_fillFirst, .initialized RX8, .fieldLink RX8 33 "TopTurned$Walks" "first" "[I", .fieldLink RX8 9 "TopTurned$Walks" "space" "LTopTurned$Space;", .fieldLink RX8 48 "TopTurned$Space" "states" "I", .methodLink RX8 54 yX8_markBehind, .instanceMethod yX8_markBehind, .selects RX8 yX8_markBehind yX8_markBehind] : List Cond)).all goodWord = true) w h), List.forall_mem_append.mpr ⟨gd_k_X8_fillFirst, List.forall_mem_append.mpr ⟨gw_X8, List.forall_mem_append.mpr ⟨gw_X5, List.forall_mem_append.mpr ⟨gd_k_X8_markBehind, fun _ h => absurd h List.not_mem_nil⟩⟩⟩⟩⟩⟩
theorem gc_k_X8_howManyBehind_1_k_X8_fillFirst : GoodIn sw_k_X8_howManyBehind_1 sw_k_X8_fillFirst := fun w h => ⟨List.mem_cons_of_mem _ (List.mem_append_right _ (List.mem_append_left _ h)), gd_k_X8_fillFirst w h⟩
theorem iw_k_X8_howManyBehind_1_X8 : ∀ w ∈ wsX80, w ∈ sw_k_X8_howManyBehind_1 := fun _ h => List.mem_cons_of_mem _ (List.mem_append_right _ (List.mem_append_right _ (List.mem_append_left _ h)))
theorem iw_k_X8_howManyBehind_1_X5 : ∀ w ∈ wsX50, w ∈ sw_k_X8_howManyBehind_1 := fun _ h => List.mem_cons_of_mem _ (List.mem_append_right _ (List.mem_append_right _ (List.mem_append_right _ (List.mem_append_left _ h))))
theorem gc_k_X8_howManyBehind_1_k_X8_markBehind : GoodIn sw_k_X8_howManyBehind_1 sw_k_X8_markBehind := fun w h => ⟨List.mem_cons_of_mem _ (List.mem_append_right _ (List.mem_append_right _ (List.mem_append_right _ (List.mem_append_right _ (List.mem_append_left _ h))))), gd_k_X8_markBehind w h⟩
set_option maxHeartbeats 4000000 in
set_option maxRecDepth 100000 in
theorem k_X8_howManyBehind_1 (l : Launch) (D : va_G) (cC cI cZ : ClassId) (h0 h1 h2 h3 h4 h5 h6 h7 h8 h9 h10 h11 h12 : Nat) (sz : Nat) : Met l yX8_howManyBehind sw_k_X8_howManyBehind_1 ({ frames := 6, cells := 0, slots := 0, locals := 300 }) (va_Pc [.ref h0, .int 0, .int 1] (kPre D cC cI cZ [(h0, .inr (8, [.ref h1, .ref h3, .ref h4, .ref h5, .ref h2, .ref h6])), (h1, .inr (5, [.int 0, .int 1, .int 1, .int 1, .int 0, .ref h7, .ref h8, .ref h9, .ref h10, .ref h11, .ref h12])), (h2, .inl (cI, 3840, .inl (fun _ => 0)))] sz)) (va_Qi (fun (r : Int32) (_ : Unit) => r = 0) (fun _ t => va_P D vwCl [(h0, .inr (8, [.ref h1, .ref h3, .ref h4, .ref h5, .ref h2, .ref h6])), (h1, .inr (5, [.int 0, .int 1, .int 1, .int 1, .int 0, .ref h7, .ref h8, .ref h9, .ref h10, .ref h11, .ref h12])), (h2, .inl (cI, 3840, .inl (upd (fun _ => 0) (Int32.toNatClampNeg 0) 1)))] t.heap ∧ va_D (va_A [(h0, .inr (8, [.ref h1, .ref h3, .ref h4, .ref h5, .ref h2, .ref h6])), (h1, .inr (5, [.int 0, .int 1, .int 1, .int 1, .int 0, .ref h7, .ref h8, .ref h9, .ref h10, .ref h11, .ref h12])), (h2, .inl (cI, 3840, .inl (fun _ => 0)))] sz) [(h0, .inr (8, [.ref h1, .ref h3, .ref h4, .ref h5, .ref h2, .ref h6])), (h1, .inr (5, [.int 0, .int 1, .int 1, .int 1, .int 0, .ref h7, .ref h8, .ref h9, .ref h10, .ref h11, .ref h12])), (h2, .inl (cI, 3840, .inl (upd (fun _ => 0) (Int32.toNatClampNeg 0) 1)))]) (va_A [(h0, .inr (8, [.ref h1, .ref h3, .ref h4, .ref h5, .ref h2, .ref h6])), (h1, .inr (5, [.int 0, .int 1, .int 1, .int 1, .int 0, .ref h7, .ref h8, .ref h9, .ref h10, .ref h11, .ref h12])), (h2, .inl (cI, 3840, .inl (fun _ => 0)))] sz)) 0 0 (va_A [(h0, .inr (8, [.ref h1, .ref h3, .ref h4, .ref h5, .ref h2, .ref h6])), (h1, .inr (5, [.int 0, .int 1, .int 1, .int 1, .int 0, .ref h7, .ref h8, .ref h9, .ref h10, .ref h11, .ref h12])), (h2, .inl (cI, 3840, .inl (fun _ => 0)))] sz) := by
  refine Met.ofW (cc := cX8_howManyBehind) (maxL := 5) (ret := (some .int)) (by decide) rfl ?_
  intro p e s m args below meth c s₁ B hml hv
  obtain ⟨rfl, hsz, hP, hK, hD0⟩ := hv
  have hx := B.exec
  have hb := B.bytes
  have hr := B.returns
  have hts := atoms_spec (ws := sw_k_X8_howManyBehind_1) B.pre
  have hown : s.vm.findClass RX8 = some m.cls := findClass_of_methodNamed B.named
  have hlocks := B.notSynchronized
  subst hsz
  have hD := hD0.self (sz := s.heap.size)
  generalize hAe : va_A [(h0, .inr (8, [.ref h1, .ref h3, .ref h4, .ref h5, .ref h2, .ref h6])), (h1, .inr (5, [.int 0, .int 1, .int 1, .int 1, .int 0, .ref h7, .ref h8, .ref h9, .ref h10, .ref h11, .ref h12])), (h2, .inl (cI, 3840, .inl (fun _ => 0)))] s.heap.size = A at hD ⊢
  have hA : ∀ q : Nat, s.heap.size ≤ q → A q := fun q h => by rw [← hAe]; exact Or.inr h
  have hS : va_S A s.heap s.heap [] := va_S.rf
  have hl := lv_entry ([.ref h0, .int 0, .int 1]) (n := 5) (Nat.le_of_ble_eq_true rfl)
  rw [lg_entry_eq]
  generalize (lg_sl ([.ref h0, .int 0, .int 1]) ++ List.replicate (5 - (lg_sl ([.ref h0, .int 0, .int 1])).length) Slot.unset).toArray = ls at hl ⊢
  have hl : lv_has ls 5 [(0, .ref h0), (1, .int 0), (2, .int 1)] := hl
  refine lv_aload_n hx hb dX8_howManyBehind_0 rfl (lv_at hl 0 rfl) ?_
  refine lv_iconst (v := 0) hx hb dX8_howManyBehind_1 (by decide) ?_
  have hPc := hP.sub (ws' := [(h0, .inr (8, [.ref h1, .ref h3, .ref h4, .ref h5, .ref h2, .ref h6])), (h1, .inr (5, [.int 0, .int 1, .int 1, .int 1, .int 0, .ref h7, .ref h8, .ref h9, .ref h10, .ref h11, .ref h12])), (h2, .inl (cI, 3840, .inl (fun _ => 0)))]) [0, 1, 2] rfl
  have hDc := hD.sub (ws' := [(h0, .inr (8, [.ref h1, .ref h3, .ref h4, .ref h5, .ref h2, .ref h6])), (h1, .inr (5, [.int 0, .int 1, .int 1, .int 1, .int 0, .ref h7, .ref h8, .ref h9, .ref h10, .ref h11, .ref h12])), (h2, .inl (cI, 3840, .inl (fun _ => 0)))]) [0, 1, 2] (by decide) rfl
  have hFc := va_free (wc := [(h0, .inr (8, [.ref h1, .ref h3, .ref h4, .ref h5, .ref h2, .ref h6])), (h1, .inr (5, [.int 0, .int 1, .int 1, .int 1, .int 0, .ref h7, .ref h8, .ref h9, .ref h10, .ref h11, .ref h12])), (h2, .inl (cI, 3840, .inl (fun _ => 0)))]) hD hS hA [0, 1, 2] rfl
  refine va_callv (va_runV (As := [.int 0]) (rest := []) ⟨hx, hb, hml, hown, hts⟩ (k_X8_fillFirst l D cC cI cZ h0 h1 h2 h3 h4 h5 h6 h7 h8 h9 h10 h11 h12 s.heap.size ) (cwV (C := RX8) 1 hts (goodIn_app (goodIn_of _ (by decide +kernel)) gc_k_X8_howManyBehind_1_k_X8_fillFirst) rfl rfl rfl (by decide +kernel) ⟨(Nat.le_of_ble_eq_true rfl), (Nat.le_of_ble_eq_true rfl)⟩) (kPreV hK hPc hDc (va_recv hK hPc (ci := 8) (q0 := 0) rfl rfl)) rfl rfl hl.1 rfl (lv_room (Nat.le_of_ble_eq_true rfl)) dX8_howManyBehind_2 ⟨(Nat.le_of_ble_eq_true rfl), (Nat.le_of_ble_eq_true rfl)⟩) hS (fun q _ h => hFc q h) hFc (fun u t H1 locs ht hvm hw hB hz1 hk1 hS => ?_)
  obtain ⟨hP1, hD1⟩ := hB
  rw [ht] at hP1
  obtain ⟨hP, hD⟩ := va_join (wr := []) (w1 := [(h0, .inr (8, [.ref h1, .ref h3, .ref h4, .ref h5, .ref h2, .ref h6])), (h1, .inr (5, [.int 0, .int 1, .int 1, .int 1, .int 0, .ref h7, .ref h8, .ref h9, .ref h10, .ref h11, .ref h12])), (h2, .inl (cI, 3840, .inl (fun _ => 0)))]) hP hD [0, 1, 2] [] rfl rfl (by decide) (by decide) hk1 hFc hP1 hD1
  generalize H1 = H at hP hS ⊢
  have hP : va_P D vwCl [(h0, .inr (8, [.ref h1, .ref h3, .ref h4, .ref h5, .ref h2, .ref h6])), (h1, .inr (5, [.int 0, .int 1, .int 1, .int 1, .int 0, .ref h7, .ref h8, .ref h9, .ref h10, .ref h11, .ref h12])), (h2, .inl (cI, 3840, .inl (fun _ => 0)))] H := hP
  have hD : va_D A [(h0, .inr (8, [.ref h1, .ref h3, .ref h4, .ref h5, .ref h2, .ref h6])), (h1, .inr (5, [.int 0, .int 1, .int 1, .int 1, .int 0, .ref h7, .ref h8, .ref h9, .ref h10, .ref h11, .ref h12])), (h2, .inl (cI, 3840, .inl (fun _ => 0)))] := hD
  refine lv_aload_n hx hb dX8_howManyBehind_5 rfl (lv_at hl 0 rfl) ?_
  refine va_get (D := D) (ci := 8) (v := .ref h2) (C := RX8) (T := TX8) (N := 6) hx hb hts iw_k_X8_howManyBehind_1_X8 hown hK hP 0 rfl rfl 4 (by decide) (hts (.fieldLink RX8 33 "TopTurned$Walks" "first" "[I") (by decide +kernel)) (fun _ h9 => h9) rfl dX8_howManyBehind_6 ?_
  refine lv_iload_n hx hb dX8_howManyBehind_9 rfl (lv_at hl 1 rfl) ?_
  refine lv_iconst (v := 1) hx hb dX8_howManyBehind_10 (by decide) ?_
  refine va_iast (i := 0) (x := 1) hx hb hK hP hD hS 2 1 rfl rfl (vp_in_iff.mpr (by decide)) dX8_howManyBehind_11 (fun H locs hP hD hS => ?_)
  have hP : va_P D vwCl [(h0, .inr (8, [.ref h1, .ref h3, .ref h4, .ref h5, .ref h2, .ref h6])), (h1, .inr (5, [.int 0, .int 1, .int 1, .int 1, .int 0, .ref h7, .ref h8, .ref h9, .ref h10, .ref h11, .ref h12])), (h2, .inl (cI, 3840, .inl (upd (fun _ => 0) (Int32.toNatClampNeg 0) 1)))] H := hP
  have hD : va_D A [(h0, .inr (8, [.ref h1, .ref h3, .ref h4, .ref h5, .ref h2, .ref h6])), (h1, .inr (5, [.int 0, .int 1, .int 1, .int 1, .int 0, .ref h7, .ref h8, .ref h9, .ref h10, .ref h11, .ref h12])), (h2, .inl (cI, 3840, .inl (upd (fun _ => 0) (Int32.toNatClampNeg 0) 1)))] := hD
  refine lv_iconst (v := 1) hx hb dX8_howManyBehind_12 (by decide) ?_
  refine lv_istore_n (lv' := [(3, .int 1), (0, .ref h0), (1, .int 0), (2, .int 1)]) hx hb dX8_howManyBehind_13 rfl hl (by decide) rfl (fun ls hl => ?_)
  refine lv_iload_n hx hb dX8_howManyBehind_14 rfl (lv_at hl 0 rfl) ?_
  refine lv_iload_n hx hb dX8_howManyBehind_15 rfl (lv_at hl 3 rfl) ?_
  refine lv_icmp_gt (tgt := 72) hx hb dX8_howManyBehind_16 (by decide) (fun c => absurd c (by decide)) (fun _ => ?_)
  refine lv_iconst (v := 0) hx hb dX8_howManyBehind_19 (by decide) ?_
  refine lv_istore (lv' := [(4, .int 0), (3, .int 1), (0, .ref h0), (1, .int 0), (2, .int 1)]) hx hb dX8_howManyBehind_20 hl (by decide) rfl (fun ls hl => ?_)
  refine lv_iload hx hb dX8_howManyBehind_22 (lv_at hl 0 rfl) ?_
  refine lv_aload_n hx hb dX8_howManyBehind_24 rfl (lv_at hl 2 rfl) ?_
  refine va_get (D := D) (ci := 8) (v := .ref h1) (C := RX8) (T := TX8) (N := 6) hx hb hts iw_k_X8_howManyBehind_1_X8 hown hK hP 0 rfl rfl 0 (by decide) (hts (.fieldLink RX8 9 "TopTurned$Walks" "space" "LTopTurned$Space;") (by decide +kernel)) (fun _ h9 => h9) rfl dX8_howManyBehind_25 ?_
  refine va_get (D := D) (ci := 5) (v := .int 1) (C := RX5) (T := TX5) (N := 11) hx hb hts iw_k_X8_howManyBehind_1_X5 hown hK hP 1 rfl rfl 3 (by decide) (hts (.fieldLink RX8 48 "TopTurned$Space" "states" "I") (by decide +kernel)) (fun _ h9 => h9) rfl dX8_howManyBehind_28 ?_
  refine lv_icmp_ge (tgt := 66) hx hb dX8_howManyBehind_31 (by decide) (fun c => absurd c (by decide)) (fun _ => ?_)
  refine lv_aload_n hx hb dX8_howManyBehind_34 rfl (lv_at hl 2 rfl) ?_
  refine va_get (D := D) (ci := 8) (v := .ref h2) (C := RX8) (T := TX8) (N := 6) hx hb hts iw_k_X8_howManyBehind_1_X8 hown hK hP 0 rfl rfl 4 (by decide) (hts (.fieldLink RX8 33 "TopTurned$Walks" "first" "[I") (by decide +kernel)) (fun _ h9 => h9) rfl dX8_howManyBehind_35 ?_
  refine lv_iload hx hb dX8_howManyBehind_38 (lv_at hl 0 rfl) ?_
  refine va_iald (i := 0) hx hb hK hP 2 1 rfl rfl (vp_in_iff.mpr (by decide)) dX8_howManyBehind_40 ?_
  refine kt_eq (y := 1) (by decide +kernel) ?_
  refine lv_iload_n hx hb dX8_howManyBehind_41 rfl (lv_at hl 1 rfl) ?_
  refine lv_iconst (v := 1) hx hb dX8_howManyBehind_42 (by decide) ?_
  refine lv_isub hx hb dX8_howManyBehind_43 ?_
  refine kt_eq (y := 0) (by decide +kernel) ?_
  refine lv_ishr hx hb dX8_howManyBehind_44 ?_
  refine kt_eq (y := 1) (by decide +kernel) ?_
  refine lv_iconst (v := 1) hx hb dX8_howManyBehind_45 (by decide) ?_
  refine lv_iand hx hb dX8_howManyBehind_46 ?_
  refine kt_eq (y := 1) (by decide +kernel) ?_
  refine lv_iconst (v := 1) hx hb dX8_howManyBehind_47 (by decide) ?_
  refine lv_icmp_ne (tgt := 60) hx hb dX8_howManyBehind_48 (by decide) (fun c => absurd (by decide) c) (fun _ => ?_)
  refine lv_aload_n hx hb dX8_howManyBehind_51 rfl (lv_at hl 2 rfl) ?_
  refine lv_iload hx hb dX8_howManyBehind_52 (lv_at hl 0 rfl) ?_
  refine lv_iconst (v := 1) hx hb dX8_howManyBehind_54 (by decide) ?_
  refine lv_iload_n hx hb dX8_howManyBehind_55 rfl (lv_at hl 1 rfl) ?_
  refine lv_ishl hx hb dX8_howManyBehind_56 ?_
  refine kt_eq (y := 2) (by decide +kernel) ?_
  have hPc := hP.sub (ws' := [(h0, .inr (8, [.ref h1, .ref h3, .ref h4, .ref h5, .ref h2, .ref h6])), (h1, .inr (5, [.int 0, .int 1, .int 1, .int 1, .int 0, .ref h7, .ref h8, .ref h9, .ref h10, .ref h11, .ref h12]))]) [0, 1] rfl
  have hDc := hD.sub (ws' := [(h0, .inr (8, [.ref h1, .ref h3, .ref h4, .ref h5, .ref h2, .ref h6])), (h1, .inr (5, [.int 0, .int 1, .int 1, .int 1, .int 0, .ref h7, .ref h8, .ref h9, .ref h10, .ref h11, .ref h12]))]) [0, 1] (by decide) rfl
  refine va_callv (va_runV (As := [.int 0, .int 2]) (rest := []) ⟨hx, hb, hml, hown, hts⟩ (k_X8_markBehind l D cC cI cZ h0 h1 h3 h4 h5 h2 h6 h7 h8 h9 h10 h11 h12 H.size ) (cwV (C := RX8) 2 hts (goodIn_app (goodIn_of _ (by decide +kernel)) gc_k_X8_howManyBehind_1_k_X8_markBehind) rfl rfl rfl (by decide +kernel) ⟨(Nat.le_of_ble_eq_true rfl), (Nat.le_of_ble_eq_true rfl)⟩) (kPreV hK hPc hDc (va_recv hK hPc (ci := 8) (q0 := 0) rfl rfl)) rfl rfl hl.1 rfl (lv_room (Nat.le_of_ble_eq_true rfl)) dX8_howManyBehind_57 ⟨(Nat.le_of_ble_eq_true rfl), (Nat.le_of_ble_eq_true rfl)⟩) hS (fun q _ h => False.elim h) (fun q h => False.elim h) (fun u t H1 locs ht hvm hw hB hz1 hk1 hS => ?_)
  have hP := hP.kept (H1 := H1) (fun k q hk => hk1 q.1 (hP k q hk).lt (fun h => h))
  generalize H1 = H at hP hS ⊢
  refine lv_iinc (v := 1) (lv' := [(4, .int 1), (3, .int 1), (0, .ref h0), (1, .int 0), (2, .int 1)]) hx hb dX8_howManyBehind_60 hl (k := 0) rfl (by decide) (by decide) rfl (fun ls hl => ?_)
  refine lv_goto (tgt := 22) hx hb dX8_howManyBehind_63 (by decide) ?_
  refine lv_iload hx hb dX8_howManyBehind_22 (lv_at hl 0 rfl) ?_
  refine lv_aload_n hx hb dX8_howManyBehind_24 rfl (lv_at hl 2 rfl) ?_
  refine va_get (D := D) (ci := 8) (v := .ref h1) (C := RX8) (T := TX8) (N := 6) hx hb hts iw_k_X8_howManyBehind_1_X8 hown hK hP 0 rfl rfl 0 (by decide) (hts (.fieldLink RX8 9 "TopTurned$Walks" "space" "LTopTurned$Space;") (by decide +kernel)) (fun _ h9 => h9) rfl dX8_howManyBehind_25 ?_
  refine va_get (D := D) (ci := 5) (v := .int 1) (C := RX5) (T := TX5) (N := 11) hx hb hts iw_k_X8_howManyBehind_1_X5 hown hK hP 1 rfl rfl 3 (by decide) (hts (.fieldLink RX8 48 "TopTurned$Space" "states" "I") (by decide +kernel)) (fun _ h9 => h9) rfl dX8_howManyBehind_28 ?_
  refine lv_icmp_ge (tgt := 66) hx hb dX8_howManyBehind_31 (by decide) (fun _ => ?_) (fun c => absurd (by decide) c)
  refine lv_iinc (v := 2) (lv' := [(3, .int 2), (4, .int 1), (0, .ref h0), (1, .int 0), (2, .int 1)]) hx hb dX8_howManyBehind_66 hl (k := 1) rfl (by decide) (by decide) rfl (fun ls hl => ?_)
  refine lv_goto (tgt := 14) hx hb dX8_howManyBehind_69 (by decide) ?_
  refine lv_iload_n hx hb dX8_howManyBehind_14 rfl (lv_at hl 0 rfl) ?_
  refine lv_iload_n hx hb dX8_howManyBehind_15 rfl (lv_at hl 4 rfl) ?_
  refine lv_icmp_gt (tgt := 72) hx hb dX8_howManyBehind_16 (by decide) (fun _ => ?_) (fun c => absurd (by decide) c)
  refine lv_iconst (v := 0) hx hb dX8_howManyBehind_72 (by decide) ?_
  refine lv_istore_n (lv' := [(3, .int 0), (4, .int 1), (0, .ref h0), (1, .int 0), (2, .int 1)]) hx hb dX8_howManyBehind_73 rfl hl (by decide) rfl (fun ls hl => ?_)
  refine lv_iconst (v := 0) hx hb dX8_howManyBehind_74 (by decide) ?_
  refine lv_istore (lv' := [(4, .int 0), (3, .int 0), (0, .ref h0), (1, .int 0), (2, .int 1)]) hx hb dX8_howManyBehind_75 hl (by decide) rfl (fun ls hl => ?_)
  refine lv_iload hx hb dX8_howManyBehind_77 (lv_at hl 0 rfl) ?_
  refine lv_aload_n hx hb dX8_howManyBehind_79 rfl (lv_at hl 2 rfl) ?_
  refine va_get (D := D) (ci := 8) (v := .ref h1) (C := RX8) (T := TX8) (N := 6) hx hb hts iw_k_X8_howManyBehind_1_X8 hown hK hP 0 rfl rfl 0 (by decide) (hts (.fieldLink RX8 9 "TopTurned$Walks" "space" "LTopTurned$Space;") (by decide +kernel)) (fun _ h9 => h9) rfl dX8_howManyBehind_80 ?_
  refine va_get (D := D) (ci := 5) (v := .int 1) (C := RX5) (T := TX5) (N := 11) hx hb hts iw_k_X8_howManyBehind_1_X5 hown hK hP 1 rfl rfl 3 (by decide) (hts (.fieldLink RX8 48 "TopTurned$Space" "states" "I") (by decide +kernel)) (fun _ h9 => h9) rfl dX8_howManyBehind_83 ?_
  refine lv_icmp_ge (tgt := 109) hx hb dX8_howManyBehind_86 (by decide) (fun c => absurd c (by decide)) (fun _ => ?_)
  refine lv_iload_n hx hb dX8_howManyBehind_89 rfl (lv_at hl 1 rfl) ?_
  refine lv_aload_n hx hb dX8_howManyBehind_90 rfl (lv_at hl 2 rfl) ?_
  refine va_get (D := D) (ci := 8) (v := .ref h2) (C := RX8) (T := TX8) (N := 6) hx hb hts iw_k_X8_howManyBehind_1_X8 hown hK hP 0 rfl rfl 4 (by decide) (hts (.fieldLink RX8 33 "TopTurned$Walks" "first" "[I") (by decide +kernel)) (fun _ h9 => h9) rfl dX8_howManyBehind_91 ?_
  refine lv_iload hx hb dX8_howManyBehind_94 (lv_at hl 0 rfl) ?_
  refine va_iald (i := 0) hx hb hK hP 2 1 rfl rfl (vp_in_iff.mpr (by decide)) dX8_howManyBehind_96 ?_
  refine kt_eq (y := 1) (by decide +kernel) ?_
  refine lv_iload_n hx hb dX8_howManyBehind_97 rfl (lv_at hl 4 rfl) ?_
  refine lv_ishr hx hb dX8_howManyBehind_98 ?_
  refine kt_eq (y := 0) (by decide +kernel) ?_
  refine lv_iconst (v := 1) hx hb dX8_howManyBehind_99 (by decide) ?_
  refine lv_iand hx hb dX8_howManyBehind_100 ?_
  refine kt_eq (y := 0) (by decide +kernel) ?_
  refine lv_iadd hx hb dX8_howManyBehind_101 ?_
  refine kt_eq (y := 0) (by decide +kernel) ?_
  refine lv_istore_n (lv' := [(3, .int 0), (4, .int 0), (0, .ref h0), (1, .int 0), (2, .int 1)]) hx hb dX8_howManyBehind_102 rfl hl (by decide) rfl (fun ls hl => ?_)
  refine lv_iinc (v := 1) (lv' := [(4, .int 1), (3, .int 0), (0, .ref h0), (1, .int 0), (2, .int 1)]) hx hb dX8_howManyBehind_103 hl (k := 1) rfl (by decide) (by decide) rfl (fun ls hl => ?_)
  refine lv_goto (tgt := 77) hx hb dX8_howManyBehind_106 (by decide) ?_
  refine lv_iload hx hb dX8_howManyBehind_77 (lv_at hl 0 rfl) ?_
  refine lv_aload_n hx hb dX8_howManyBehind_79 rfl (lv_at hl 2 rfl) ?_
  refine va_get (D := D) (ci := 8) (v := .ref h1) (C := RX8) (T := TX8) (N := 6) hx hb hts iw_k_X8_howManyBehind_1_X8 hown hK hP 0 rfl rfl 0 (by decide) (hts (.fieldLink RX8 9 "TopTurned$Walks" "space" "LTopTurned$Space;") (by decide +kernel)) (fun _ h9 => h9) rfl dX8_howManyBehind_80 ?_
  refine va_get (D := D) (ci := 5) (v := .int 1) (C := RX5) (T := TX5) (N := 11) hx hb hts iw_k_X8_howManyBehind_1_X5 hown hK hP 1 rfl rfl 3 (by decide) (hts (.fieldLink RX8 48 "TopTurned$Space" "states" "I") (by decide +kernel)) (fun _ h9 => h9) rfl dX8_howManyBehind_83 ?_
  refine lv_icmp_ge (tgt := 109) hx hb dX8_howManyBehind_86 (by decide) (fun _ => ?_) (fun c => absurd (by decide) c)
  refine lv_iload_n hx hb dX8_howManyBehind_109 rfl (lv_at hl 1 rfl) ?_
  refine W.widen (k := 0) (n := 0) (Nat.le_of_ble_eq_true rfl) (Nat.le_of_ble_eq_true rfl) ?_
  have hP9 := hP.sub (ws' := [(h0, .inr (8, [.ref h1, .ref h3, .ref h4, .ref h5, .ref h2, .ref h6])), (h1, .inr (5, [.int 0, .int 1, .int 1, .int 1, .int 0, .ref h7, .ref h8, .ref h9, .ref h10, .ref h11, .ref h12])), (h2, .inl (cI, 3840, .inl (upd (fun _ => 0) (Int32.toNatClampNeg 0) 1)))]) [0, 1, 2] rfl
  have hD9 := hD.sub (ws' := [(h0, .inr (8, [.ref h1, .ref h3, .ref h4, .ref h5, .ref h2, .ref h6])), (h1, .inr (5, [.int 0, .int 1, .int 1, .int 1, .int 0, .ref h7, .ref h8, .ref h9, .ref h10, .ref h11, .ref h12])), (h2, .inl (cI, 3840, .inl (upd (fun _ => 0) (Int32.toNatClampNeg 0) 1)))]) [0, 1, 2] (by decide) rfl
  exact W.iret (v := 0) hx hb hr (fun t ht hW => ⟨⟨0, (), rfl, rfl, ⟨by rw [ht]; exact hP9, hD9⟩⟩, hS.F ht⟩) hS.2.2 dX8_howManyBehind_110
