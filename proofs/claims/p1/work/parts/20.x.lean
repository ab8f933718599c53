def sw_k_X1_flood : List Cond := .code yX1_flood cX1_flood 10 none :: (([.fieldLink RX1 34 "TopTurned$Chart" "queue" "[I", .fieldLink RX1 21 "TopTurned$Chart" "space" "LTopTurned$Space;", .methodLink RX1 70 yX5_orderIn, .instanceMethod yX5_orderIn, .selects RX5 yX5_orderIn yX5_orderIn, .initialized RX5, .fieldLink RX1 74 "TopTurned$Space" "turns" "I"] : List Cond) ++ (wsX10 ++ (sw_k_X5_orderIn ++ (wsX50 ++ (([] : List Cond))))))
theorem gd_k_X1_flood : ∀ w ∈ sw_k_X1_flood, (w.onTables && w.keeps) = true ∨ ∃ ty, w = .arrayClass ty := List.forall_mem_cons.mpr ⟨good_of_word rfl, List.forall_mem_append.mpr ⟨fun w h => good_of_word (List.all_eq_true.mp (by decide +kernel : (([.fieldLink RX1 34 "TopTurned$Chart" "queue" "[I", .fieldLink RX1 21 "TopTurned$Chart" "space" "LTopTurned$Space;", .methodLink RX1 70 yX5_orderIn, .instanceMethod yX5_orderIn, .selects RX5 yX5_orderIn yX5_orderIn, .initialized RX5, .fieldLink RX1 74 "TopTurned$Space" "turns" "I"] : List Cond)).all goodWord = true) w h), List.forall_mem_append.mpr ⟨gw_X1, List.forall_mem_append.mpr ⟨gd_k_X5_orderIn, List.forall_mem_append.mpr ⟨gw_X5, fun _ h => absurd h List.not_mem_nil⟩⟩⟩⟩⟩
theorem iw_k_X1_flood_X1 : ∀ w ∈ wsX10, w ∈ sw_k_X1_flood := fun _ h => List.mem_cons_of_mem _ (List.mem_append_right _ (List.mem_append_left _ h))
theorem gc_k_X1_flood_k_X5_orderIn : GoodIn sw_k_X1_flood sw_k_X5_orderIn := fun w h => ⟨List.mem_cons_of_mem _ (List.mem_append_right _ (List.mem_append_right _ (List.mem_append_left _ h))), gd_k_X5_orderIn w h⟩
theorem iw_k_X1_flood_X5 : ∀ w ∈ wsX50, w ∈ sw_k_X1_flood := fun _ h => List.mem_cons_of_mem _ (List.mem_append_right _ (List.mem_append_right _ (List.mem_append_right _ (List.mem_append_left _ h))))
set_option maxHeartbeats 4000000 in
set_option maxRecDepth 100000 in
theorem k_X1_flood (l : Launch) (D : va_G) (cC cI cZ : ClassId) (h0 h1 h2 h3 h4 h5 h6 h7 h8 h9 h10 h11 h12 h13 : Nat) (sz : Nat) : Met l yX1_flood sw_k_X1_flood ({ frames := 4, cells := 0, slots := 0, locals := 200 }) (va_Pc [.ref h0, .ref h1, .ref h2, .int 1] (kPre D cC cI cZ [(h0, .inr (1, [.ref h4, .ref h5, .ref h3, .ref h6, .ref h1, .ref h2, .ref h7, .int 1, .int 0])), (h3, .inl (cI, 3840, .inl (fun _ => 0))), (h4, .inr (5, [.int 0, .int 1, .int 1, .int 1, .int 0, .ref h8, .ref h9, .ref h10, .ref h11, .ref h12, .ref h13]))] sz)) (va_Qv (fun (_ : Unit) => True) (fun _ _ => True) (fun _ => False)) 0 0 (fun _ => False) := by
  refine Met.ofW (cc := cX1_flood) (maxL := 10) (ret := none) (by decide) rfl ?_
  intro p e s m args below meth c s₁ B hml hv
  obtain ⟨rfl, hsz, hP, hK, hD0⟩ := hv
  have hx := B.exec
  have hb := B.bytes
  have hr := B.returns
  have hts := atoms_spec (ws := sw_k_X1_flood) B.pre
  have hown : s.vm.findClass RX1 = some m.cls := findClass_of_methodNamed B.named
  have hlocks := B.notSynchronized
  subst hsz
  have hD := hD0
  have hS : va_S (fun _ => False) s.heap s.heap [] := va_S.rf
  have hl := lv_entry ([.ref h0, .ref h1, .ref h2, .int 1]) (n := 10) (Nat.le_of_ble_eq_true rfl)
  rw [lg_entry_eq]
  generalize (lg_sl ([.ref h0, .ref h1, .ref h2, .int 1]) ++ List.replicate (10 - (lg_sl ([.ref h0, .ref h1, .ref h2, .int 1])).length) Slot.unset).toArray = ls at hl ⊢
  have hl : lv_has ls 10 [(0, .ref h0), (1, .ref h1), (2, .ref h2), (3, .int 1)] := hl
  refine lv_iload_n hx hb dX1_flood_0 rfl (lv_at hl 3 rfl) ?_
  refine lv_istore (lv' := [(4, .int 1), (0, .ref h0), (1, .ref h1), (2, .ref h2), (3, .int 1)]) hx hb dX1_flood_1 hl (by decide) rfl (fun ls hl => ?_)
  refine lv_iconst (v := 0) hx hb dX1_flood_3 (by decide) ?_
  refine lv_istore (lv' := [(5, .int 0), (4, .int 1), (0, .ref h0), (1, .ref h1), (2, .ref h2), (3, .int 1)]) hx hb dX1_flood_4 hl (by decide) rfl (fun ls hl => ?_)
  refine lv_iload hx hb dX1_flood_6 (lv_at hl 0 rfl) ?_
  refine lv_iload hx hb dX1_flood_8 (lv_at hl 1 rfl) ?_
  refine lv_icmp_ge (tgt := 164) hx hb dX1_flood_10 (by decide) (fun c => absurd c (by decide)) (fun _ => ?_)
  refine lv_iload hx hb dX1_flood_13 (lv_at hl 0 rfl) ?_
  refine lv_sipush (v := 3840) hx hb dX1_flood_15 (by decide) ?_
  refine lv_icmp_ge (tgt := 164) hx hb dX1_flood_18 (by decide) (fun c => absurd c (by decide)) (fun _ => ?_)
  refine lv_aload_n hx hb dX1_flood_21 rfl (lv_at hl 2 rfl) ?_
  refine va_get (D := D) (ci := 1) (v := .ref h3) (C := RX1) (T := TX1) (N := 9) hx hb hts iw_k_X1_flood_X1 hown hK hP 0 rfl rfl 2 (by decide) (hts (.fieldLink RX1 34 "TopTurned$Chart" "queue" "[I") (by decide +kernel)) (fun _ h9 => h9) rfl dX1_flood_22 ?_
  refine lv_iload hx hb dX1_flood_25 (lv_at hl 0 rfl) ?_
  refine va_iald (i := 0) hx hb hK hP 1 1 rfl rfl (vp_in_iff.mpr (by decide)) dX1_flood_27 ?_
  refine kt_eq (y := 0) (by decide +kernel) ?_
  refine lv_istore (lv' := [(6, .int 0), (5, .int 0), (4, .int 1), (0, .ref h0), (1, .ref h1), (2, .ref h2), (3, .int 1)]) hx hb dX1_flood_28 hl (by decide) rfl (fun ls hl => ?_)
  refine lv_aload_n hx hb dX1_flood_30 rfl (lv_at hl 3 rfl) ?_
  refine va_get (D := D) (ci := 1) (v := .ref h4) (C := RX1) (T := TX1) (N := 9) hx hb hts iw_k_X1_flood_X1 hown hK hP 0 rfl rfl 0 (by decide) (hts (.fieldLink RX1 21 "TopTurned$Chart" "space" "LTopTurned$Space;") (by decide +kernel)) (fun _ h9 => h9) rfl dX1_flood_31 ?_
  refine lv_iload hx hb dX1_flood_34 (lv_at hl 0 rfl) ?_
  have hPc := hP.sub (ws' := [(h4, .inr (5, [.int 0, .int 1, .int 1, .int 1, .int 0, .ref h8, .ref h9, .ref h10, .ref h11, .ref h12, .ref h13]))]) [2] rfl
  have hDc := hD.sub (ws' := [(h4, .inr (5, [.int 0, .int 1, .int 1, .int 1, .int 0, .ref h8, .ref h9, .ref h10, .ref h11, .ref h12, .ref h13]))]) [2] (by decide) rfl
  refine va_calli (va_runV (As := [.int 0]) (rest := []) ⟨hx, hb, hml, hown, hts⟩ (k_X5_orderIn l D cC cI cZ h4 h8 h9 h10 h11 h12 h13 s.heap.size ) (cwV (C := RX5) 1 hts (goodIn_app (goodIn_of _ (by decide +kernel)) gc_k_X1_flood_k_X5_orderIn) rfl rfl rfl (by decide +kernel) ⟨(Nat.le_of_ble_eq_true rfl), (Nat.le_of_ble_eq_true rfl)⟩) (kPreV hK hPc hDc (va_recv hK hPc (ci := 5) (q0 := 0) rfl rfl)) rfl rfl hl.1 rfl (lv_room (Nat.le_of_ble_eq_true rfl)) dX1_flood_36 ⟨(Nat.le_of_ble_eq_true rfl), (Nat.le_of_ble_eq_true rfl)⟩) hS (fun q _ h => False.elim h) (fun q h => False.elim h) (fun r1 u t H1 locs ht hvm hw hB hz1 hk1 hS => ?_)
  have hP := hP.kept (H1 := H1) (fun k q hk => hk1 q.1 (hP k q hk).lt (fun h => h))
  generalize H1 = H at hP hS ⊢
  have hw : r1 = 0 := hw
  subst hw
  refine lv_istore (lv' := [(7, .int 0), (6, .int 0), (5, .int 0), (4, .int 1), (0, .ref h0), (1, .ref h1), (2, .ref h2), (3, .int 1)]) hx hb dX1_flood_39 hl (by decide) rfl (fun ls hl => ?_)
  refine lv_iconst (v := 0) hx hb dX1_flood_41 (by decide) ?_
  refine lv_istore (lv' := [(8, .int 0), (7, .int 0), (6, .int 0), (5, .int 0), (4, .int 1), (0, .ref h0), (1, .ref h1), (2, .ref h2), (3, .int 1)]) hx hb dX1_flood_42 hl (by decide) rfl (fun ls hl => ?_)
  refine lv_iload hx hb dX1_flood_44 (lv_at hl 0 rfl) ?_
  refine lv_aload_n hx hb dX1_flood_46 rfl (lv_at hl 5 rfl) ?_
  refine va_get (D := D) (ci := 1) (v := .ref h4) (C := RX1) (T := TX1) (N := 9) hx hb hts iw_k_X1_flood_X1 hown hK hP 0 rfl rfl 0 (by decide) (hts (.fieldLink RX1 21 "TopTurned$Chart" "space" "LTopTurned$Space;") (by decide +kernel)) (fun _ h9 => h9) rfl dX1_flood_47 ?_
  refine va_get (D := D) (ci := 5) (v := .int 0) (C := RX5) (T := TX5) (N := 11) hx hb hts iw_k_X1_flood_X5 hown hK hP 2 rfl rfl 4 (by decide) (hts (.fieldLink RX1 74 "TopTurned$Space" "turns" "I") (by decide +kernel)) (fun _ h9 => h9) rfl dX1_flood_50 ?_
  refine lv_icmp_ge (tgt := 158) hx hb dX1_flood_53 (by decide) (fun _ => ?_) (fun c => absurd (by decide) c)
  refine lv_iinc (v := 1) (lv' := [(5, .int 1), (8, .int 0), (7, .int 0), (6, .int 0), (4, .int 1), (0, .ref h0), (1, .ref h1), (2, .ref h2), (3, .int 1)]) hx hb dX1_flood_158 hl (k := 3) rfl (by decide) (by decide) rfl (fun ls hl => ?_)
  refine lv_goto (tgt := 6) hx hb dX1_flood_161 (by decide) ?_
  refine lv_iload hx hb dX1_flood_6 (lv_at hl 0 rfl) ?_
  refine lv_iload hx hb dX1_flood_8 (lv_at hl 4 rfl) ?_
  refine lv_icmp_ge (tgt := 164) hx hb dX1_flood_10 (by decide) (fun _ => ?_) (fun c => absurd (by decide) c)
  exact W.vret hx hb hr (fun t ht hW => ⟨⟨(), rfl, trivial, trivial⟩, hS.F ht⟩) hS.2.2 dX1_flood_164
def sw_k_X1_measure : List Cond := .code yX1_measure cX1_measure 3 none :: (([.fieldLink RX1 41 "TopTurned$Chart" "measured" "Z", .fieldLink RX1 21 "TopTurned$Chart" "space" "LTopTurned$Space;", .fieldLink RX1 54 "TopTurned$Space" "states" "I", .fieldLink RX1 9 "TopTurned$Chart" "distance" "[I", .fieldLink RX1 25 "TopTurned$Chart" "rules" "LTopTurned$Rules;", .methodLink RX1 60 yX3_arranged, .instanceMethod yX3_arranged, .selects RX3 yX3_arranged yX3_arranged, .initialized RX3, .fieldLink RX1 15 "TopTurned$Chart" "rows" "[I", .fieldLink RX1 34 "TopTurned$Chart" "queue" "[I", .methodLink RX1 66 yX1_flood, .instanceMethod yX1_flood, .selects RX1 yX1_flood yX1_flood, .initialized RX1] : List Cond) ++ (wsX10 ++ (wsX50 ++ (sw_k_X3_arranged ++ (sw_k_X1_flood ++ (([] : List Cond)))))))
theorem gd_k_X1_measure : ∀ w ∈ sw_k_X1_measure, (w.onTables && w.keeps) = true ∨ ∃ ty, w = .arrayClass ty := List.forall_mem_cons.mpr ⟨good_of_word rfl, List.forall_mem_append.mpr ⟨fun w h => good_of_word (List.all_eq_true.mp (by decide +kernel : (([.fieldLink RX1 41 "TopTurned$Chart" "measured" "Z", .fieldLink RX1 21 "TopTurned$Chart" "space" "LTopTurned$Space;", .fieldLink RX1 54 "TopTurned$Space" "states" "I", .fieldLink RX1 9 "TopTurned$Chart" "distance" "[I", .fieldLink RX1 25 "TopTurned$Chart" "rules" "LTopTurned$Rules;", .methodLink RX1 60 yX3_arranged, .instanceMethod yX3_arranged, .selects RX3 yX3_arranged yX3_arranged, .initialized RX3, .fieldLink RX1 15 "TopTurned$Chart" "rows" "[I", .fieldLink RX1 34 "TopTurned$Chart" "queue" "[I", .methodLink RX1 66 yX1_flood, .instanceMethod yX1_flood, .selects RX1 yX1_flood yX1_flood, .initialized RX1] : List Cond)).all goodWord = true) w h), List.forall_mem_append.mpr ⟨gw_X1, List.forall_mem_append.mpr ⟨gw_X5, List.forall_mem_append.mpr ⟨gd_k_X3_arranged, List.forall_mem_append.mpr ⟨gd_k_X1_flood, fun _ h => absurd h List.not_mem_nil⟩⟩⟩⟩⟩⟩
theorem iw_k_X1_measure_X1 : ∀ w ∈ wsX10, w ∈ sw_k_X1_measure := fun _ h => List.mem_cons_of_mem _ (List.mem_append_right _ (List.mem_append_left _ h))
theorem iw_k_X1_measure_X5 : ∀ w ∈ wsX50, w ∈ sw_k_X1_measure := fun _ h => List.mem_cons_of_mem _ (List.mem_append_right _ (List.mem_append_right _ (List.mem_append_left _ h)))
theorem gc_k_X1_measure_k_X3_arranged : GoodIn sw_k_X1_measure sw_k_X3_arranged := fun w h => ⟨List.mem_cons_of_mem _ (List.mem_append_right _ (List.mem_append_right _ (List.mem_append_right _ (List.mem_append_left _ h)))), gd_k_X3_arranged w h⟩
theorem gc_k_X1_measure_k_X1_flood : GoodIn sw_k_X1_measure sw_k_X1_flood := fun w h => ⟨List.mem_cons_of_mem _ (List.mem_append_right _ (List.mem_append_right _ (List.mem_append_right _ (List.mem_append_right _ (List.mem_append_left _ h))))), gd_k_X1_flood w h⟩
set_option maxHeartbeats 4000000 in
set_option maxRecDepth 100000 in
theorem k_X1_measure (l : Launch) (D : va_G) (cC cI cZ : ClassId) (h0 h1 h2 h3 h4 h5 h6 h7 h8 h9 h10 h11 h12 h13 h14 h15 h16 h17 : Nat) (sz : Nat) : Met l yX1_measure sw_k_X1_measure ({ frames := 6, cells := 0, slots := 0, locals := 300 }) (va_Pc [.ref h0] (kPre D cC cI cZ [(h0, .inr (1, [.ref h1, .ref h3, .ref h6, .ref h7, .ref h2, .ref h5, .ref h8, .int 0, .int 0])), (h1, .inr (5, [.int 0, .int 1, .int 1, .int 1, .int 0, .ref h9, .ref h10, .ref h11, .ref h12, .ref h13, .ref h14])), (h2, .inl (cI, 3840, .inl (fun _ => 0))), (h3, .inr (3, [.ref h15, .ref h1, .ref h16, .ref h4, .ref h17, .int 0])), (h4, .inl (cZ, 120, .inl (upd (fun _ => 0) (Int32.toNatClampNeg 0) (vp_nar .boolean 1)))), (h5, .inl (cI, 3840, .inl (fun _ => 0))), (h6, .inl (cI, 3840, .inl (fun _ => 0)))] sz)) (va_Qv (fun (_ : Unit) => True) (fun _ t => va_P D vwCl [(h0, .inr (1, [.ref h1, .ref h3, .ref h6, .ref h7, .ref h2, .ref h5, .ref h8, .int 1, .int 0])), (h1, .inr (5, [.int 0, .int 1, .int 1, .int 1, .int 0, .ref h9, .ref h10, .ref h11, .ref h12, .ref h13, .ref h14])), (h2, .inl (cI, 3840, .inl (upd (upd (fun _ => 0) (Int32.toNatClampNeg 0) (-1)) (Int32.toNatClampNeg 0) 0))), (h3, .inr (3, [.ref h15, .ref h1, .ref h16, .ref h4, .ref h17, .int 0])), (h4, .inl (cZ, 120, .inl (upd (fun _ => 0) (Int32.toNatClampNeg 0) (vp_nar .boolean 1)))), (h5, .inl (cI, 3840, .inl (upd (fun _ => 0) (Int32.toNatClampNeg 0) 1))), (h6, .inl (cI, 3840, .inl (fun _ => 0)))] t.heap ∧ va_D (va_A [(h0, .inr (1, [.ref h1, .ref h3, .ref h6, .ref h7, .ref h2, .ref h5, .ref h8, .int 0, .int 0])), (h1, .inr (5, [.int 0, .int 1, .int 1, .int 1, .int 0, .ref h9, .ref h10, .ref h11, .ref h12, .ref h13, .ref h14])), (h2, .inl (cI, 3840, .inl (fun _ => 0))), (h3, .inr (3, [.ref h15, .ref h1, .ref h16, .ref h4, .ref h17, .int 0])), (h4, .inl (cZ, 120, .inl (upd (fun _ => 0) (Int32.toNatClampNeg 0) (vp_nar .boolean 1)))), (h5, .inl (cI, 3840, .inl (fun _ => 0))), (h6, .inl (cI, 3840, .inl (fun _ => 0)))] sz) [(h0, .inr (1, [.ref h1, .ref h3, .ref h6, .ref h7, .ref h2, .ref h5, .ref h8, .int 1, .int 0])), (h1, .inr (5, [.int 0, .int 1, .int 1, .int 1, .int 0, .ref h9, .ref h10, .ref h11, .ref h12, .ref h13, .ref h14])), (h2, .inl (cI, 3840, .inl (upd (upd (fun _ => 0) (Int32.toNatClampNeg 0) (-1)) (Int32.toNatClampNeg 0) 0))), (h3, .inr (3, [.ref h15, .ref h1, .ref h16, .ref h4, .ref h17, .int 0])), (h4, .inl (cZ, 120, .inl (upd (fun _ => 0) (Int32.toNatClampNeg 0) (vp_nar .boolean 1)))), (h5, .inl (cI, 3840, .inl (upd (fun _ => 0) (Int32.toNatClampNeg 0) 1))), (h6, .inl (cI, 3840, .inl (fun _ => 0)))]) (va_A [(h0, .inr (1, [.ref h1, .ref h3, .ref h6, .ref h7, .ref h2, .ref h5, .ref h8, .int 0, .int 0])), (h1, .inr (5, [.int 0, .int 1, .int 1, .int 1, .int 0, .ref h9, .ref h10, .ref h11, .ref h12, .ref h13, .ref h14])), (h2, .inl (cI, 3840, .inl (fun _ => 0))), (h3, .inr (3, [.ref h15, .ref h1, .ref h16, .ref h4, .ref h17, .int 0])), (h4, .inl (cZ, 120, .inl (upd (fun _ => 0) (Int32.toNatClampNeg 0) (vp_nar .boolean 1)))), (h5, .inl (cI, 3840, .inl (fun _ => 0))), (h6, .inl (cI, 3840, .inl (fun _ => 0)))] sz)) 0 0 (va_A [(h0, .inr (1, [.ref h1, .ref h3, .ref h6, .ref h7, .ref h2, .ref h5, .ref h8, .int 0, .int 0])), (h1, .inr (5, [.int 0, .int 1, .int 1, .int 1, .int 0, .ref h9, .ref h10, .ref h11, .ref h12, .ref h13, .ref h14])), (h2, .inl (cI, 3840, .inl (fun _ => 0))), (h3, .inr (3, [.ref h15, .ref h1, .ref h16, .ref h4, .ref h17, .int 0])), (h4, .inl (cZ, 120, .inl (upd (fun _ => 0) (Int32.toNatClampNeg 0) (vp_nar .boolean 1)))), (h5, .inl (cI, 3840, .inl (fun _ => 0))), (h6, .inl (cI, 3840, .inl (fun _ => 0)))] sz) := by
  refine Met.ofW (cc := cX1_measure) (maxL := 3) (ret := none) (by decide) rfl ?_
  intro p e s m args below meth c s₁ B hml hv
  obtain ⟨rfl, hsz, hP, hK, hD0⟩ := hv
  have hx := B.exec
  have hb := B.bytes
  have hr := B.returns
  have hts := atoms_spec (ws := sw_k_X1_measure) B.pre
  have hown : s.vm.findClass RX1 = some m.cls := findClass_of_methodNamed B.named
  have hlocks := B.notSynchronized
  subst hsz
  have hD := hD0.self (sz := s.heap.size)
  generalize hAe : va_A [(h0, .inr (1, [.ref h1, .ref h3, .ref h6, .ref h7, .ref h2, .ref h5, .ref h8, .int 0, .int 0])), (h1, .inr (5, [.int 0, .int 1, .int 1, .int 1, .int 0, .ref h9, .ref h10, .ref h11, .ref h12, .ref h13, .ref h14])), (h2, .inl (cI, 3840, .inl (fun _ => 0))), (h3, .inr (3, [.ref h15, .ref h1, .ref h16, .ref h4, .ref h17, .int 0])), (h4, .inl (cZ, 120, .inl (upd (fun _ => 0) (Int32.toNatClampNeg 0) (vp_nar .boolean 1)))), (h5, .inl (cI, 3840, .inl (fun _ => 0))), (h6, .inl (cI, 3840, .inl (fun _ => 0)))] s.heap.size = A at hD ⊢
  have hA : ∀ q : Nat, s.heap.size ≤ q → A q := fun q h => by rw [← hAe]; exact Or.inr h
  have hS : va_S A s.heap s.heap [] := va_S.rf
  have hl := lv_entry ([.ref h0]) (n := 3) (Nat.le_of_ble_eq_true rfl)
  rw [lg_entry_eq]
  generalize (lg_sl ([.ref h0]) ++ List.replicate (3 - (lg_sl ([.ref h0])).length) Slot.unset).toArray = ls at hl ⊢
  have hl : lv_has ls 3 [(0, .ref h0)] := hl
  refine lv_aload_n hx hb dX1_measure_0 rfl (lv_at hl 0 rfl) ?_
  refine va_get (D := D) (ci := 1) (v := .int 0) (C := RX1) (T := TX1) (N := 9) hx hb hts iw_k_X1_measure_X1 hown hK hP 0 rfl rfl 7 (by decide) (hts (.fieldLink RX1 41 "TopTurned$Chart" "measured" "Z") (by decide +kernel)) (fun _ h9 => h9) rfl dX1_measure_1 ?_
  refine lv_if_eq (tgt := 8) hx hb dX1_measure_4 (by decide) (fun _ => ?_) (fun c => absurd (by decide) c)
  refine lv_aload_n hx hb dX1_measure_8 rfl (lv_at hl 0 rfl) ?_
  refine lv_iconst (v := 1) hx hb dX1_measure_9 (by decide) ?_
  refine va_put (D := D) (ci := 1) (v := .int 1) (ty := .boolean) (C := RX1) (T := TX1) (N := 9) hx hb hts iw_k_X1_measure_X1 tyX1 tyX1_ok nmX1 hown hK hP hD hS 0 rfl rfl 7 (by decide) (hts (.fieldLink RX1 41 "TopTurned$Chart" "measured" "Z") (by decide +kernel)) (fun _ h9 => h9) rfl (by decide +kernel) rfl rfl (Nat.le_of_ble_eq_true rfl) dX1_measure_10 (fun H locs hP hD hS => ?_)
  have hP : va_P D vwCl [(h0, .inr (1, [.ref h1, .ref h3, .ref h6, .ref h7, .ref h2, .ref h5, .ref h8, .int 1, .int 0])), (h1, .inr (5, [.int 0, .int 1, .int 1, .int 1, .int 0, .ref h9, .ref h10, .ref h11, .ref h12, .ref h13, .ref h14])), (h2, .inl (cI, 3840, .inl (fun _ => 0))), (h3, .inr (3, [.ref h15, .ref h1, .ref h16, .ref h4, .ref h17, .int 0])), (h4, .inl (cZ, 120, .inl (upd (fun _ => 0) (Int32.toNatClampNeg 0) (vp_nar .boolean 1)))), (h5, .inl (cI, 3840, .inl (fun _ => 0))), (h6, .inl (cI, 3840, .inl (fun _ => 0)))] H := hP
  have hD : va_D A [(h0, .inr (1, [.ref h1, .ref h3, .ref h6, .ref h7, .ref h2, .ref h5, .ref h8, .int 1, .int 0])), (h1, .inr (5, [.int 0, .int 1, .int 1, .int 1, .int 0, .ref h9, .ref h10, .ref h11, .ref h12, .ref h13, .ref h14])), (h2, .inl (cI, 3840, .inl (fun _ => 0))), (h3, .inr (3, [.ref h15, .ref h1, .ref h16, .ref h4, .ref h17, .int 0])), (h4, .inl (cZ, 120, .inl (upd (fun _ => 0) (Int32.toNatClampNeg 0) (vp_nar .boolean 1)))), (h5, .inl (cI, 3840, .inl (fun _ => 0))), (h6, .inl (cI, 3840, .inl (fun _ => 0)))] := hD
  refine lv_iconst (v := 0) hx hb dX1_measure_13 (by decide) ?_
  refine lv_istore_n (lv' := [(1, .int 0), (0, .ref h0)]) hx hb dX1_measure_14 rfl hl (by decide) rfl (fun ls hl => ?_)
  refine lv_iconst (v := 0) hx hb dX1_measure_15 (by decide) ?_
  refine lv_istore_n (lv' := [(2, .int 0), (1, .int 0), (0, .ref h0)]) hx hb dX1_measure_16 rfl hl (by decide) rfl (fun ls hl => ?_)
  refine lv_iload_n hx hb dX1_measure_17 rfl (lv_at hl 0 rfl) ?_
  refine lv_aload_n hx hb dX1_measure_18 rfl (lv_at hl 2 rfl) ?_
  refine va_get (D := D) (ci := 1) (v := .ref h1) (C := RX1) (T := TX1) (N := 9) hx hb hts iw_k_X1_measure_X1 hown hK hP 0 rfl rfl 0 (by decide) (hts (.fieldLink RX1 21 "TopTurned$Chart" "space" "LTopTurned$Space;") (by decide +kernel)) (fun _ h9 => h9) rfl dX1_measure_19 ?_
  refine va_get (D := D) (ci := 5) (v := .int 1) (C := RX5) (T := TX5) (N := 11) hx hb hts iw_k_X1_measure_X5 hown hK hP 1 rfl rfl 3 (by decide) (hts (.fieldLink RX1 54 "TopTurned$Space" "states" "I") (by decide +kernel)) (fun _ h9 => h9) rfl dX1_measure_22 ?_
  refine lv_icmp_ge (tgt := 76) hx hb dX1_measure_25 (by decide) (fun c => absurd c (by decide)) (fun _ => ?_)
  refine lv_aload_n hx hb dX1_measure_28 rfl (lv_at hl 2 rfl) ?_
  refine va_get (D := D) (ci := 1) (v := .ref h2) (C := RX1) (T := TX1) (N := 9) hx hb hts iw_k_X1_measure_X1 hown hK hP 0 rfl rfl 4 (by decide) (hts (.fieldLink RX1 9 "TopTurned$Chart" "distance" "[I") (by decide +kernel)) (fun _ h9 => h9) rfl dX1_measure_29 ?_
  refine lv_iload_n hx hb dX1_measure_32 rfl (lv_at hl 0 rfl) ?_
  refine lv_iconst (v := (-1)) hx hb dX1_measure_33 (by decide) ?_
  refine va_iast (i := 0) (x := (-1)) hx hb hK hP hD hS 2 1 rfl rfl (vp_in_iff.mpr (by decide)) dX1_measure_34 (fun H locs hP hD hS => ?_)
  have hP : va_P D vwCl [(h0, .inr (1, [.ref h1, .ref h3, .ref h6, .ref h7, .ref h2, .ref h5, .ref h8, .int 1, .int 0])), (h1, .inr (5, [.int 0, .int 1, .int 1, .int 1, .int 0, .ref h9, .ref h10, .ref h11, .ref h12, .ref h13, .ref h14])), (h2, .inl (cI, 3840, .inl (upd (fun _ => 0) (Int32.toNatClampNeg 0) (-1)))), (h3, .inr (3, [.ref h15, .ref h1, .ref h16, .ref h4, .ref h17, .int 0])), (h4, .inl (cZ, 120, .inl (upd (fun _ => 0) (Int32.toNatClampNeg 0) (vp_nar .boolean 1)))), (h5, .inl (cI, 3840, .inl (fun _ => 0))), (h6, .inl (cI, 3840, .inl (fun _ => 0)))] H := hP
  have hD : va_D A [(h0, .inr (1, [.ref h1, .ref h3, .ref h6, .ref h7, .ref h2, .ref h5, .ref h8, .int 1, .int 0])), (h1, .inr (5, [.int 0, .int 1, .int 1, .int 1, .int 0, .ref h9, .ref h10, .ref h11, .ref h12, .ref h13, .ref h14])), (h2, .inl (cI, 3840, .inl (upd (fun _ => 0) (Int32.toNatClampNeg 0) (-1)))), (h3, .inr (3, [.ref h15, .ref h1, .ref h16, .ref h4, .ref h17, .int 0])), (h4, .inl (cZ, 120, .inl (upd (fun _ => 0) (Int32.toNatClampNeg 0) (vp_nar .boolean 1)))), (h5, .inl (cI, 3840, .inl (fun _ => 0))), (h6, .inl (cI, 3840, .inl (fun _ => 0)))] := hD
  refine lv_aload_n hx hb dX1_measure_35 rfl (lv_at hl 2 rfl) ?_
  refine va_get (D := D) (ci := 1) (v := .ref h3) (C := RX1) (T := TX1) (N := 9) hx hb hts iw_k_X1_measure_X1 hown hK hP 0 rfl rfl 1 (by decide) (hts (.fieldLink RX1 25 "TopTurned$Chart" "rules" "LTopTurned$Rules;") (by decide +kernel)) (fun _ h9 => h9) rfl dX1_measure_36 ?_
  refine lv_iload_n hx hb dX1_measure_39 rfl (lv_at hl 0 rfl) ?_
  have hPc := hP.sub (ws' := [(h3, .inr (3, [.ref h15, .ref h1, .ref h16, .ref h4, .ref h17, .int 0])), (h1, .inr (5, [.int 0, .int 1, .int 1, .int 1, .int 0, .ref h9, .ref h10, .ref h11, .ref h12, .ref h13, .ref h14])), (h4, .inl (cZ, 120, .inl (upd (fun _ => 0) (Int32.toNatClampNeg 0) (vp_nar .boolean 1))))]) [3, 1, 4] rfl
  have hDc := hD.sub (ws' := [(h3, .inr (3, [.ref h15, .ref h1, .ref h16, .ref h4, .ref h17, .int 0])), (h1, .inr (5, [.int 0, .int 1, .int 1, .int 1, .int 0, .ref h9, .ref h10, .ref h11, .ref h12, .ref h13, .ref h14])), (h4, .inl (cZ, 120, .inl (upd (fun _ => 0) (Int32.toNatClampNeg 0) (vp_nar .boolean 1))))]) [3, 1, 4] (by decide) rfl
  refine va_calli (va_runV (As := [.int 0]) (rest := []) ⟨hx, hb, hml, hown, hts⟩ (k_X3_arranged l D cC cI cZ h3 h1 h4 h15 h16 h17 h9 h10 h11 h12 h13 h14 H.size ) (cwV (C := RX3) 1 hts (goodIn_app (goodIn_of _ (by decide +kernel)) gc_k_X1_measure_k_X3_arranged) rfl rfl rfl (by decide +kernel) ⟨(Nat.le_of_ble_eq_true rfl), (Nat.le_of_ble_eq_true rfl)⟩) (kPreV hK hPc hDc (va_recv hK hPc (ci := 3) (q0 := 0) rfl rfl)) rfl rfl hl.1 rfl (lv_room (Nat.le_of_ble_eq_true rfl)) dX1_measure_40 ⟨(Nat.le_of_ble_eq_true rfl), (Nat.le_of_ble_eq_true rfl)⟩) hS (fun q _ h => False.elim h) (fun q h => False.elim h) (fun r1 u t H1 locs ht hvm hw hB hz1 hk1 hS => ?_)
  have hP := hP.kept (H1 := H1) (fun k q hk => hk1 q.1 (hP k q hk).lt (fun h => h))
  generalize H1 = H at hP hS ⊢
  have hw : r1 = 1 := hw
  subst hw
  refine lv_if_eq (tgt := 70) hx hb dX1_measure_43 (by decide) (fun c => absurd c (by decide)) (fun _ => ?_)
  refine lv_aload_n hx hb dX1_measure_46 rfl (lv_at hl 2 rfl) ?_
  refine va_get (D := D) (ci := 1) (v := .ref h2) (C := RX1) (T := TX1) (N := 9) hx hb hts iw_k_X1_measure_X1 hown hK hP 0 rfl rfl 4 (by decide) (hts (.fieldLink RX1 9 "TopTurned$Chart" "distance" "[I") (by decide +kernel)) (fun _ h9 => h9) rfl dX1_measure_47 ?_
  refine lv_iload_n hx hb dX1_measure_50 rfl (lv_at hl 0 rfl) ?_
  refine lv_iconst (v := 0) hx hb dX1_measure_51 (by decide) ?_
  refine va_iast (i := 0) (x := 0) hx hb hK hP hD hS 2 1 rfl rfl (vp_in_iff.mpr (by decide)) dX1_measure_52 (fun H locs hP hD hS => ?_)
  have hP : va_P D vwCl [(h0, .inr (1, [.ref h1, .ref h3, .ref h6, .ref h7, .ref h2, .ref h5, .ref h8, .int 1, .int 0])), (h1, .inr (5, [.int 0, .int 1, .int 1, .int 1, .int 0, .ref h9, .ref h10, .ref h11, .ref h12, .ref h13, .ref h14])), (h2, .inl (cI, 3840, .inl (upd (upd (fun _ => 0) (Int32.toNatClampNeg 0) (-1)) (Int32.toNatClampNeg 0) 0))), (h3, .inr (3, [.ref h15, .ref h1, .ref h16, .ref h4, .ref h17, .int 0])), (h4, .inl (cZ, 120, .inl (upd (fun _ => 0) (Int32.toNatClampNeg 0) (vp_nar .boolean 1)))), (h5, .inl (cI, 3840, .inl (fun _ => 0))), (h6, .inl (cI, 3840, .inl (fun _ => 0)))] H := hP
  have hD : va_D A [(h0, .inr (1, [.ref h1, .ref h3, .ref h6, .ref h7, .ref h2, .ref h5, .ref h8, .int 1, .int 0])), (h1, .inr (5, [.int 0, .int 1, .int 1, .int 1, .int 0, .ref h9, .ref h10, .ref h11, .ref h12, .ref h13, .ref h14])), (h2, .inl (cI, 3840, .inl (upd (upd (fun _ => 0) (Int32.toNatClampNeg 0) (-1)) (Int32.toNatClampNeg 0) 0))), (h3, .inr (3, [.ref h15, .ref h1, .ref h16, .ref h4, .ref h17, .int 0])), (h4, .inl (cZ, 120, .inl (upd (fun _ => 0) (Int32.toNatClampNeg 0) (vp_nar .boolean 1)))), (h5, .inl (cI, 3840, .inl (fun _ => 0))), (h6, .inl (cI, 3840, .inl (fun _ => 0)))] := hD
  refine lv_aload_n hx hb dX1_measure_53 rfl (lv_at hl 2 rfl) ?_
  refine va_get (D := D) (ci := 1) (v := .ref h5) (C := RX1) (T := TX1) (N := 9) hx hb hts iw_k_X1_measure_X1 hown hK hP 0 rfl rfl 5 (by decide) (hts (.fieldLink RX1 15 "TopTurned$Chart" "rows" "[I") (by decide +kernel)) (fun _ h9 => h9) rfl dX1_measure_54 ?_
  refine lv_iload_n hx hb dX1_measure_57 rfl (lv_at hl 0 rfl) ?_
  refine lv_iconst (v := 1) hx hb dX1_measure_58 (by decide) ?_
  refine va_iast (i := 0) (x := 1) hx hb hK hP hD hS 5 1 rfl rfl (vp_in_iff.mpr (by decide)) dX1_measure_59 (fun H locs hP hD hS => ?_)
  have hP : va_P D vwCl [(h0, .inr (1, [.ref h1, .ref h3, .ref h6, .ref h7, .ref h2, .ref h5, .ref h8, .int 1, .int 0])), (h1, .inr (5, [.int 0, .int 1, .int 1, .int 1, .int 0, .ref h9, .ref h10, .ref h11, .ref h12, .ref h13, .ref h14])), (h2, .inl (cI, 3840, .inl (upd (upd (fun _ => 0) (Int32.toNatClampNeg 0) (-1)) (Int32.toNatClampNeg 0) 0))), (h3, .inr (3, [.ref h15, .ref h1, .ref h16, .ref h4, .ref h17, .int 0])), (h4, .inl (cZ, 120, .inl (upd (fun _ => 0) (Int32.toNatClampNeg 0) (vp_nar .boolean 1)))), (h5, .inl (cI, 3840, .inl (upd (fun _ => 0) (Int32.toNatClampNeg 0) 1))), (h6, .inl (cI, 3840, .inl (fun _ => 0)))] H := hP
  have hD : va_D A [(h0, .inr (1, [.ref h1, .ref h3, .ref h6, .ref h7, .ref h2, .ref h5, .ref h8, .int 1, .int 0])), (h1, .inr (5, [.int 0, .int 1, .int 1, .int 1, .int 0, .ref h9, .ref h10, .ref h11, .ref h12, .ref h13, .ref h14])), (h2, .inl (cI, 3840, .inl (upd (upd (fun _ => 0) (Int32.toNatClampNeg 0) (-1)) (Int32.toNatClampNeg 0) 0))), (h3, .inr (3, [.ref h15, .ref h1, .ref h16, .ref h4, .ref h17, .int 0])), (h4, .inl (cZ, 120, .inl (upd (fun _ => 0) (Int32.toNatClampNeg 0) (vp_nar .boolean 1)))), (h5, .inl (cI, 3840, .inl (upd (fun _ => 0) (Int32.toNatClampNeg 0) 1))), (h6, .inl (cI, 3840, .inl (fun _ => 0)))] := hD
  refine lv_aload_n hx hb dX1_measure_60 rfl (lv_at hl 2 rfl) ?_
  refine va_get (D := D) (ci := 1) (v := .ref h6) (C := RX1) (T := TX1) (N := 9) hx hb hts iw_k_X1_measure_X1 hown hK hP 0 rfl rfl 2 (by decide) (hts (.fieldLink RX1 34 "TopTurned$Chart" "queue" "[I") (by decide +kernel)) (fun _ h9 => h9) rfl dX1_measure_61 ?_
  refine lv_iload_n hx hb dX1_measure_64 rfl (lv_at hl 1 rfl) ?_
  refine lv_iload_n hx hb dX1_measure_65 rfl (lv_at hl 0 rfl) ?_
  refine kn_iastS (i := 0) (x := 0) hx hb hK hP hD hS 6 1 rfl rfl (vp_in_iff.mpr (by decide)) (by decide +kernel) dX1_measure_66 (fun H locs hP hD hS => ?_)
  refine lv_iinc (v := 1) (lv' := [(1, .int 1), (2, .int 0), (0, .ref h0)]) hx hb dX1_measure_67 hl (k := 1) rfl (by decide) (by decide) rfl (fun ls hl => ?_)
  refine lv_iinc (v := 1) (lv' := [(2, .int 1), (1, .int 1), (0, .ref h0)]) hx hb dX1_measure_70 hl (k := 1) rfl (by decide) (by decide) rfl (fun ls hl => ?_)
  refine lv_goto (tgt := 17) hx hb dX1_measure_73 (by decide) ?_
  refine lv_iload_n hx hb dX1_measure_17 rfl (lv_at hl 0 rfl) ?_
  refine lv_aload_n hx hb dX1_measure_18 rfl (lv_at hl 2 rfl) ?_
  refine va_get (D := D) (ci := 1) (v := .ref h1) (C := RX1) (T := TX1) (N := 9) hx hb hts iw_k_X1_measure_X1 hown hK hP 0 rfl rfl 0 (by decide) (hts (.fieldLink RX1 21 "TopTurned$Chart" "space" "LTopTurned$Space;") (by decide +kernel)) (fun _ h9 => h9) rfl dX1_measure_19 ?_
  refine va_get (D := D) (ci := 5) (v := .int 1) (C := RX5) (T := TX5) (N := 11) hx hb hts iw_k_X1_measure_X5 hown hK hP 1 rfl rfl 3 (by decide) (hts (.fieldLink RX1 54 "TopTurned$Space" "states" "I") (by decide +kernel)) (fun _ h9 => h9) rfl dX1_measure_22 ?_
  refine lv_icmp_ge (tgt := 76) hx hb dX1_measure_25 (by decide) (fun _ => ?_) (fun c => absurd (by decide) c)
  refine lv_aload_n hx hb dX1_measure_76 rfl (lv_at hl 2 rfl) ?_
  refine lv_aload_n hx hb dX1_measure_77 rfl (lv_at hl 2 rfl) ?_
  refine va_get (D := D) (ci := 1) (v := .ref h2) (C := RX1) (T := TX1) (N := 9) hx hb hts iw_k_X1_measure_X1 hown hK hP 0 rfl rfl 4 (by decide) (hts (.fieldLink RX1 9 "TopTurned$Chart" "distance" "[I") (by decide +kernel)) (fun _ h9 => h9) rfl dX1_measure_78 ?_
  refine lv_aload_n hx hb dX1_measure_81 rfl (lv_at hl 2 rfl) ?_
  refine va_get (D := D) (ci := 1) (v := .ref h5) (C := RX1) (T := TX1) (N := 9) hx hb hts iw_k_X1_measure_X1 hown hK hP 0 rfl rfl 5 (by decide) (hts (.fieldLink RX1 15 "TopTurned$Chart" "rows" "[I") (by decide +kernel)) (fun _ h9 => h9) rfl dX1_measure_82 ?_
  refine lv_iload_n hx hb dX1_measure_85 rfl (lv_at hl 1 rfl) ?_
  have hPc := hP.sub (ws' := [(h0, .inr (1, [.ref h1, .ref h3, .ref h6, .ref h7, .ref h2, .ref h5, .ref h8, .int 1, .int 0])), (h6, .inl (cI, 3840, .inl (fun _ => 0))), (h1, .inr (5, [.int 0, .int 1, .int 1, .int 1, .int 0, .ref h9, .ref h10, .ref h11, .ref h12, .ref h13, .ref h14]))]) [0, 6, 1] rfl
  have hDc := hD.sub (ws' := [(h0, .inr (1, [.ref h1, .ref h3, .ref h6, .ref h7, .ref h2, .ref h5, .ref h8, .int 1, .int 0])), (h6, .inl (cI, 3840, .inl (fun _ => 0))), (h1, .inr (5, [.int 0, .int 1, .int 1, .int 1, .int 0, .ref h9, .ref h10, .ref h11, .ref h12, .ref h13, .ref h14]))]) [0, 6, 1] (by decide) rfl
  refine va_callv (va_runV (As := [.ref h2, .ref h5, .int 1]) (rest := []) ⟨hx, hb, hml, hown, hts⟩ (k_X1_flood l D cC cI cZ h0 h2 h5 h6 h1 h3 h7 h8 h9 h10 h11 h12 h13 h14 H.size ) (cwV (C := RX1) 3 hts (goodIn_app (goodIn_of _ (by decide +kernel)) gc_k_X1_measure_k_X1_flood) rfl rfl rfl (by decide +kernel) ⟨(Nat.le_of_ble_eq_true rfl), (Nat.le_of_ble_eq_true rfl)⟩) (kPreV hK hPc hDc (va_recv hK hPc (ci := 1) (q0 := 0) rfl rfl)) rfl rfl hl.1 rfl (lv_room (Nat.le_of_ble_eq_true rfl)) dX1_measure_86 ⟨(Nat.le_of_ble_eq_true rfl), (Nat.le_of_ble_eq_true rfl)⟩) hS (fun q _ h => False.elim h) (fun q h => False.elim h) (fun u t H1 locs ht hvm hw hB hz1 hk1 hS => ?_)
  have hP := hP.kept (H1 := H1) (fun k q hk => hk1 q.1 (hP k q hk).lt (fun h => h))
  generalize H1 = H at hP hS ⊢
  refine W.widen (k := 0) (n := 0) (Nat.le_of_ble_eq_true rfl) (Nat.le_of_ble_eq_true rfl) ?_
  have hP9 := hP.sub (ws' := [(h0, .inr (1, [.ref h1, .ref h3, .ref h6, .ref h7, .ref h2, .ref h5, .ref h8, .int 1, .int 0])), (h1, .inr (5, [.int 0, .int 1, .int 1, .int 1, .int 0, .ref h9, .ref h10, .ref h11, .ref h12, .ref h13, .ref h14])), (h2, .inl (cI, 3840, .inl (upd (upd (fun _ => 0) (Int32.toNatClampNeg 0) (-1)) (Int32.toNatClampNeg 0) 0))), (h3, .inr (3, [.ref h15, .ref h1, .ref h16, .ref h4, .ref h17, .int 0])), (h4, .inl (cZ, 120, .inl (upd (fun _ => 0) (Int32.toNatClampNeg 0) (vp_nar .boolean 1)))), (h5, .inl (cI, 3840, .inl (upd (fun _ => 0) (Int32.toNatClampNeg 0) 1))), (h6, .inl (cI, 3840, .inl (fun _ => 0)))]) [0, 1, 2, 3, 4, 5, 6] rfl
  have hD9 := hD.sub (ws' := [(h0, .inr (1, [.ref h1, .ref h3, .ref h6, .ref h7, .ref h2, .ref h5, .ref h8, .int 1, .int 0])), (h1, .inr (5, [.int 0, .int 1, .int 1, .int 1, .int 0, .ref h9, .ref h10, .ref h11, .ref h12, .ref h13, .ref h14])), (h2, .inl (cI, 3840, .inl (upd (upd (fun _ => 0) (Int32.toNatClampNeg 0) (-1)) (Int32.toNatClampNeg 0) 0))), (h3, .inr (3, [.ref h15, .ref h1, .ref h16, .ref h4, .ref h17, .int 0])), (h4, .inl (cZ, 120, .inl (upd (fun _ => 0) (Int32.toNatClampNeg 0) (vp_nar .boolean 1)))), (h5, .inl (cI, 3840, .inl (upd (fun _ => 0) (Int32.toNatClampNeg 0) 1))), (h6, .inl (cI, 3840, .inl (fun _ => 0)))]) [0, 1, 2, 3, 4, 5, 6] (by decide) rfl
  exact W.vret hx hb hr (fun t ht hW => ⟨⟨(), rfl, trivial, ⟨by rw [ht]; exact hP9, hD9⟩⟩, hS.F ht⟩) hS.2.2 dX1_measure_89
def sw_k_X1_leastOf : List Cond := .code yX1_leastOf cX1_leastOf 2 (some .int) :: (([.methodLink RX1 48 yX1_measure, .instanceMethod yX1_measure, .selects RX1 yX1_measure yX1_measure, .initialized RX1, .fieldLink RX1 9 "TopTurned$Chart" "distance" "[I"] : List Cond) ++ (sw_k_X1_measure ++ (wsX10 ++ (([] : List Cond)))))
theorem gd_k_X1_leastOf : ∀ w ∈ sw_k_X1_leastOf, (w.onTables && w.keeps) = true ∨ ∃ ty, w = .arrayClass ty := List.forall_mem_cons.mpr ⟨good_of_word rfl, List.forall_mem_append.mpr ⟨fun w h => good_of_word (List.all_eq_true.mp (by decide +kernel : (([.methodLink RX1 48 yX1_measure, .instanceMethod yX1_measure, .selects RX1 yX1_measure yX1_measure, .initialized RX1, .fieldLink RX1 9 "TopTurned$Chart" "distance" "[I"] : List Cond)).all goodWord = true) w h), List.forall_mem_append.mpr ⟨gd_k_X1_measure, List.forall_mem_append.mpr ⟨gw_X1, fun _ h => absurd h List.not_mem_nil⟩⟩⟩⟩
theorem gc_k_X1_leastOf_k_X1_measure : GoodIn sw_k_X1_leastOf sw_k_X1_measure := fun w h => ⟨List.mem_cons_of_mem _ (List.mem_append_right _ (List.mem_append_left _ h)), gd_k_X1_measure w h⟩
theorem iw_k_X1_leastOf_X1 : ∀ w ∈ wsX10, w ∈ sw_k_X1_leastOf := fun _ h => List.mem_cons_of_mem _ (List.mem_append_right _ (List.mem_append_right _ (List.mem_append_left _ h)))
set_option maxHeartbeats 4000000 in
set_option maxRecDepth 100000 in
theorem k_X1_leastOf (l : Launch) (D : va_G) (cC cI cZ : ClassId) (h0 h1 h2 h3 h4 h5 h6 h7 h8 h9 h10 h11 h12 h13 h14 h15 h16 h17 : Nat) (sz : Nat) : Met l yX1_leastOf sw_k_X1_leastOf ({ frames := 8, cells := 0, slots := 0, locals := 400 }) (va_Pc [.ref h0, .int 0] (kPre D cC cI cZ [(h0, .inr (1, [.ref h1, .ref h3, .ref h6, .ref h7, .ref h2, .ref h5, .ref h8, .int 0, .int 0])), (h1, .inr (5, [.int 0, .int 1, .int 1, .int 1, .int 0, .ref h9, .ref h10, .ref h11, .ref h12, .ref h13, .ref h14])), (h2, .inl (cI, 3840, .inl (fun _ => 0))), (h3, .inr (3, [.ref h15, .ref h1, .ref h16, .ref h4, .ref h17, .int 0])), (h4, .inl (cZ, 120, .inl (upd (fun _ => 0) (Int32.toNatClampNeg 0) (vp_nar .boolean 1)))), (h5, .inl (cI, 3840, .inl (fun _ => 0))), (h6, .inl (cI, 3840, .inl (fun _ => 0)))] sz)) (va_Qi (fun (r : Int32) (_ : Unit) => r = 0) (fun _ t => va_P D vwCl [(h0, .inr (1, [.ref h1, .ref h3, .ref h6, .ref h7, .ref h2, .ref h5, .ref h8, .int 1, .int 0])), (h1, .inr (5, [.int 0, .int 1, .int 1, .int 1, .int 0, .ref h9, .ref h10, .ref h11, .ref h12, .ref h13, .ref h14])), (h2, .inl (cI, 3840, .inl (upd (upd (fun _ => 0) (Int32.toNatClampNeg 0) (-1)) (Int32.toNatClampNeg 0) 0))), (h3, .inr (3, [.ref h15, .ref h1, .ref h16, .ref h4, .ref h17, .int 0])), (h4, .inl (cZ, 120, .inl (upd (fun _ => 0) (Int32.toNatClampNeg 0) (vp_nar .boolean 1)))), (h5, .inl (cI, 3840, .inl (upd (fun _ => 0) (Int32.toNatClampNeg 0) 1))), (h6, .inl (cI, 3840, .inl (fun _ => 0)))] t.heap ∧ va_D (va_A [(h0, .inr (1, [.ref h1, .ref h3, .ref h6, .ref h7, .ref h2, .ref h5, .ref h8, .int 0, .int 0])), (h1, .inr (5, [.int 0, .int 1, .int 1, .int 1, .int 0, .ref h9, .ref h10, .ref h11, .ref h12, .ref h13, .ref h14])), (h2, .inl (cI, 3840, .inl (fun _ => 0))), (h3, .inr (3, [.ref h15, .ref h1, .ref h16, .ref h4, .ref h17, .int 0])), (h4, .inl (cZ, 120, .inl (upd (fun _ => 0) (Int32.toNatClampNeg 0) (vp_nar .boolean 1)))), (h5, .inl (cI, 3840, .inl (fun _ => 0))), (h6, .inl (cI, 3840, .inl (fun _ => 0)))] sz) [(h0, .inr (1, [.ref h1, .ref h3, .ref h6, .ref h7, .ref h2, .ref h5, .ref h8, .int 1, .int 0])), (h1, .inr (5, [.int 0, .int 1, .int 1, .int 1, .int 0, .ref h9, .ref h10, .ref h11, .ref h12, .ref h13, .ref h14])), (h2, .inl (cI, 3840, .inl (upd (upd (fun _ => 0) (Int32.toNatClampNeg 0) (-1)) (Int32.toNatClampNeg 0) 0))), (h3, .inr (3, [.ref h15, .ref h1, .ref h16, .ref h4, .ref h17, .int 0])), (h4, .inl (cZ, 120, .inl (upd (fun _ => 0) (Int32.toNatClampNeg 0) (vp_nar .boolean 1)))), (h5, .inl (cI, 3840, .inl (upd (fun _ => 0) (Int32.toNatClampNeg 0) 1))), (h6, .inl (cI, 3840, .inl (fun _ => 0)))]) (va_A [(h0, .inr (1, [.ref h1, .ref h3, .ref h6, .ref h7, .ref h2, .ref h5, .ref h8, .int 0, .int 0])), (h1, .inr (5, [.int 0, .int 1, .int 1, .int 1, .int 0, .ref h9, .ref h10, .ref h11, .ref h12, .ref h13, .ref h14])), (h2, .inl (cI, 3840, .inl (fun _ => 0))), (h3, .inr (3, [.ref h15, .ref h1, .ref h16, .ref h4, .ref h17, .int 0])), (h4, .inl (cZ, 120, .inl (upd (fun _ => 0) (Int32.toNatClampNeg 0) (vp_nar .boolean 1)))), (h5, .inl (cI, 3840, .inl (fun _ => 0))), (h6, .inl (cI, 3840, .inl (fun _ => 0)))] sz)) 0 0 (va_A [(h0, .inr (1, [.ref h1, .ref h3, .ref h6, .ref h7, .ref h2, .ref h5, .ref h8, .int 0, .int 0])), (h1, .inr (5, [.int 0, .int 1, .int 1, .int 1, .int 0, .ref h9, .ref h10, .ref h11, .ref h12, .ref h13, .ref h14])), (h2, .inl (cI, 3840, .inl (fun _ => 0))), (h3, .inr (3, [.ref h15, .ref h1, .ref h16, .ref h4, .ref h17, .int 0])), (h4, .inl (cZ, 120, .inl (upd (fun _ => 0) (Int32.toNatClampNeg 0) (vp_nar .boolean 1)))), (h5, .inl (cI, 3840, .inl (fun _ => 0))), (h6, .inl (cI, 3840, .inl (fun _ => 0)))] sz) := by
  refine Met.ofW (cc := cX1_leastOf) (maxL := 2) (ret := (some .int)) (by decide) rfl ?_
  intro p e s m args below meth c s₁ B hml hv
  obtain ⟨rfl, hsz, hP, hK, hD0⟩ := hv
  have hx := B.exec
  have hb := B.bytes
  have hr := B.returns
  have hts := atoms_spec (ws := sw_k_X1_leastOf) B.pre
  have hown : s.vm.findClass RX1 = some m.cls := findClass_of_methodNamed B.named
  have hlocks := B.notSynchronized
  subst hsz
  have hD := hD0.self (sz := s.heap.size)
  generalize hAe : va_A [(h0, .inr (1, [.ref h1, .ref h3, .ref h6, .ref h7, .ref h2, .ref h5, .ref h8, .int 0, .int 0])), (h1, .inr (5, [.int 0, .int 1, .int 1, .int 1, .int 0, .ref h9, .ref h10, .ref h11, .ref h12, .ref h13, .ref h14])), (h2, .inl (cI, 3840, .inl (fun _ => 0))), (h3, .inr (3, [.ref h15, .ref h1, .ref h16, .ref h4, .ref h17, .int 0])), (h4, .inl (cZ, 120, .inl (upd (fun _ => 0) (Int32.toNatClampNeg 0) (vp_nar .boolean 1)))), (h5, .inl (cI, 3840, .inl (fun _ => 0))), (h6, .inl (cI, 3840, .inl (fun _ => 0)))] s.heap.size = A at hD ⊢
  have hA : ∀ q : Nat, s.heap.size ≤ q → A q := fun q h => by rw [← hAe]; exact Or.inr h
  have hS : va_S A s.heap s.heap [] := va_S.rf
  have hl := lv_entry ([.ref h0, .int 0]) (n := 2) (Nat.le_of_ble_eq_true rfl)
  rw [lg_entry_eq]
  generalize (lg_sl ([.ref h0, .int 0]) ++ List.replicate (2 - (lg_sl ([.ref h0, .int 0])).length) Slot.unset).toArray = ls at hl ⊢
  have hl : lv_has ls 2 [(0, .ref h0), (1, .int 0)] := hl
  refine lv_aload_n hx hb dX1_leastOf_0 rfl (lv_at hl 0 rfl) ?_
  have hPc := hP.sub (ws' := [(h0, .inr (1, [.ref h1, .ref h3, .ref h6, .ref h7, .ref h2, .ref h5, .ref h8, .int 0, .int 0])), (h1, .inr (5, [.int 0, .int 1, .int 1, .int 1, .int 0, .ref h9, .ref h10, .ref h11, .ref h12, .ref h13, .ref h14])), (h2, .inl (cI, 3840, .inl (fun _ => 0))), (h3, .inr (3, [.ref h15, .ref h1, .ref h16, .ref h4, .ref h17, .int 0])), (h4, .inl (cZ, 120, .inl (upd (fun _ => 0) (Int32.toNatClampNeg 0) (vp_nar .boolean 1)))), (h5, .inl (cI, 3840, .inl (fun _ => 0))), (h6, .inl (cI, 3840, .inl (fun _ => 0)))]) [0, 1, 2, 3, 4, 5, 6] rfl
  have hDc := hD.sub (ws' := [(h0, .inr (1, [.ref h1, .ref h3, .ref h6, .ref h7, .ref h2, .ref h5, .ref h8, .int 0, .int 0])), (h1, .inr (5, [.int 0, .int 1, .int 1, .int 1, .int 0, .ref h9, .ref h10, .ref h11, .ref h12, .ref h13, .ref h14])), (h2, .inl (cI, 3840, .inl (fun _ => 0))), (h3, .inr (3, [.ref h15, .ref h1, .ref h16, .ref h4, .ref h17, .int 0])), (h4, .inl (cZ, 120, .inl (upd (fun _ => 0) (Int32.toNatClampNeg 0) (vp_nar .boolean 1)))), (h5, .inl (cI, 3840, .inl (fun _ => 0))), (h6, .inl (cI, 3840, .inl (fun _ => 0)))]) [0, 1, 2, 3, 4, 5, 6] (by decide) rfl
  have hFc := va_free (wc := [(h0, .inr (1, [.ref h1, .ref h3, .ref h6, .ref h7, .ref h2, .ref h5, .ref h8, .int 0, .int 0])), (h1, .inr (5, [.int 0, .int 1, .int 1, .int 1, .int 0, .ref h9, .ref h10, .ref h11, .ref h12, .ref h13, .ref h14])), (h2, .inl (cI, 3840, .inl (fun _ => 0))), (h3, .inr (3, [.ref h15, .ref h1, .ref h16, .ref h4, .ref h17, .int 0])), (h4, .inl (cZ, 120, .inl (upd (fun _ => 0) (Int32.toNatClampNeg 0) (vp_nar .boolean 1)))), (h5, .inl (cI, 3840, .inl (fun _ => 0))), (h6, .inl (cI, 3840, .inl (fun _ => 0)))]) hD hS hA [0, 1, 2, 3, 4, 5, 6] rfl
  refine va_callv (va_runV (As := []) (rest := []) ⟨hx, hb, hml, hown, hts⟩ (k_X1_measure l D cC cI cZ h0 h1 h2 h3 h4 h5 h6 h7 h8 h9 h10 h11 h12 h13 h14 h15 h16 h17 s.heap.size ) (cwV (C := RX1) 0 hts (goodIn_app (goodIn_of _ (by decide +kernel)) gc_k_X1_leastOf_k_X1_measure) rfl rfl rfl (by decide +kernel) ⟨(Nat.le_of_ble_eq_true rfl), (Nat.le_of_ble_eq_true rfl)⟩) (kPreV hK hPc hDc (va_recv hK hPc (ci := 1) (q0 := 0) rfl rfl)) rfl rfl hl.1 rfl (lv_room (Nat.le_of_ble_eq_true rfl)) dX1_leastOf_1 ⟨(Nat.le_of_ble_eq_true rfl), (Nat.le_of_ble_eq_true rfl)⟩) hS (fun q _ h => hFc q h) hFc (fun u t H1 locs ht hvm hw hB hz1 hk1 hS => ?_)
  obtain ⟨hP1, hD1⟩ := hB
  rw [ht] at hP1
  obtain ⟨hP, hD⟩ := va_join (wr := []) (w1 := [(h0, .inr (1, [.ref h1, .ref h3, .ref h6, .ref h7, .ref h2, .ref h5, .ref h8, .int 1, .int 0])), (h1, .inr (5, [.int 0, .int 1, .int 1, .int 1, .int 0, .ref h9, .ref h10, .ref h11, .ref h12, .ref h13, .ref h14])), (h2, .inl (cI, 3840, .inl (upd (upd (fun _ => 0) (Int32.toNatClampNeg 0) (-1)) (Int32.toNatClampNeg 0) 0))), (h3, .inr (3, [.ref h15, .ref h1, .ref h16, .ref h4, .ref h17, .int 0])), (h4, .inl (cZ, 120, .inl (upd (fun _ => 0) (Int32.toNatClampNeg 0) (vp_nar .boolean 1)))), (h5, .inl (cI, 3840, .inl (upd (fun _ => 0) (Int32.toNatClampNeg 0) 1))), (h6, .inl (cI, 3840, .inl (fun _ => 0)))]) hP hD [0, 1, 2, 3, 4, 5, 6] [] rfl rfl (by decide) (by decide) hk1 hFc hP1 hD1
  generalize H1 = H at hP hS ⊢
  have hP : va_P D vwCl [(h0, .inr (1, [.ref h1, .ref h3, .ref h6, .ref h7, .ref h2, .ref h5, .ref h8, .int 1, .int 0])), (h1, .inr (5, [.int 0, .int 1, .int 1, .int 1, .int 0, .ref h9, .ref h10, .ref h11, .ref h12, .ref h13, .ref h14])), (h2, .inl (cI, 3840, .inl (upd (upd (fun _ => 0) (Int32.toNatClampNeg 0) (-1)) (Int32.toNatClampNeg 0) 0))), (h3, .inr (3, [.ref h15, .ref h1, .ref h16, .ref h4, .ref h17, .int 0])), (h4, .inl (cZ, 120, .inl (upd (fun _ => 0) (Int32.toNatClampNeg 0) (vp_nar .boolean 1)))), (h5, .inl (cI, 3840, .inl (upd (fun _ => 0) (Int32.toNatClampNeg 0) 1))), (h6, .inl (cI, 3840, .inl (fun _ => 0)))] H := hP
  have hD : va_D A [(h0, .inr (1, [.ref h1, .ref h3, .ref h6, .ref h7, .ref h2, .ref h5, .ref h8, .int 1, .int 0])), (h1, .inr (5, [.int 0, .int 1, .int 1, .int 1, .int 0, .ref h9, .ref h10, .ref h11, .ref h12, .ref h13, .ref h14])), (h2, .inl (cI, 3840, .inl (upd (upd (fun _ => 0) (Int32.toNatClampNeg 0) (-1)) (Int32.toNatClampNeg 0) 0))), (h3, .inr (3, [.ref h15, .ref h1, .ref h16, .ref h4, .ref h17, .int 0])), (h4, .inl (cZ, 120, .inl (upd (fun _ => 0) (Int32.toNatClampNeg 0) (vp_nar .boolean 1)))), (h5, .inl (cI, 3840, .inl (upd (fun _ => 0) (Int32.toNatClampNeg 0) 1))), (h6, .inl (cI, 3840, .inl (fun _ => 0)))] := hD
  refine lv_aload_n hx hb dX1_leastOf_4 rfl (lv_at hl 0 rfl) ?_
  refine va_get (D := D) (ci := 1) (v := .ref h2) (C := RX1) (T := TX1) (N := 9) hx hb hts iw_k_X1_leastOf_X1 hown hK hP 0 rfl rfl 4 (by decide) (hts (.fieldLink RX1 9 "TopTurned$Chart" "distance" "[I") (by decide +kernel)) (fun _ h9 => h9) rfl dX1_leastOf_5 ?_
  refine lv_iload_n hx hb dX1_leastOf_8 rfl (lv_at hl 1 rfl) ?_
  refine va_iald (i := 0) hx hb hK hP 2 1 rfl rfl (vp_in_iff.mpr (by decide)) dX1_leastOf_9 ?_
  refine kt_eq (y := 0) (by decide +kernel) ?_
  refine W.widen (k := 0) (n := 0) (Nat.le_of_ble_eq_true rfl) (Nat.le_of_ble_eq_true rfl) ?_
  have hP9 := hP.sub (ws' := [(h0, .inr (1, [.ref h1, .ref h3, .ref h6, .ref h7, .ref h2, .ref h5, .ref h8, .int 1, .int 0])), (h1, .inr (5, [.int 0, .int 1, .int 1, .int 1, .int 0, .ref h9, .ref h10, .ref h11, .ref h12, .ref h13, .ref h14])), (h2, .inl (cI, 3840, .inl (upd (upd (fun _ => 0) (Int32.toNatClampNeg 0) (-1)) (Int32.toNatClampNeg 0) 0))), (h3, .inr (3, [.ref h15, .ref h1, .ref h16, .ref h4, .ref h17, .int 0])), (h4, .inl (cZ, 120, .inl (upd (fun _ => 0) (Int32.toNatClampNeg 0) (vp_nar .boolean 1)))), (h5, .inl (cI, 3840, .inl (upd (fun _ => 0) (Int32.toNatClampNeg 0) 1))), (h6, .inl (cI, 3840, .inl (fun _ => 0)))]) [0, 1, 2, 3, 4, 5, 6] rfl
  have hD9 := hD.sub (ws' := [(h0, .inr (1, [.ref h1, .ref h3, .ref h6, .ref h7, .ref h2, .ref h5, .ref h8, .int 1, .int 0])), (h1, .inr (5, [.int 0, .int 1, .int 1, .int 1, .int 0, .ref h9, .ref h10, .ref h11, .ref h12, .ref h13, .ref h14])), (h2, .inl (cI, 3840, .inl (upd (upd (fun _ => 0) (Int32.toNatClampNeg 0) (-1)) (Int32.toNatClampNeg 0) 0))), (h3, .inr (3, [.ref h15, .ref h1, .ref h16, .ref h4, .ref h17, .int 0])), (h4, .inl (cZ, 120, .inl (upd (fun _ => 0) (Int32.toNatClampNeg 0) (vp_nar .boolean 1)))), (h5, .inl (cI, 3840, .inl (upd (fun _ => 0) (Int32.toNatClampNeg 0) 1))), (h6, .inl (cI, 3840, .inl (fun _ => 0)))]) [0, 1, 2, 3, 4, 5, 6] (by decide) rfl
  exact W.iret (v := 0) hx hb hr (fun t ht hW => ⟨⟨0, (), rfl, rfl, ⟨by rw [ht]; exact hP9, hD9⟩⟩, hS.F ht⟩) hS.2.2 dX1_leastOf_10
def sw_k_X9_orNone : List Cond := .code yX9_orNone cX9_orNone 1 (some .int) :: (([] : List Cond) ++ (([] : List Cond)))
theorem gd_k_X9_orNone : ∀ w ∈ sw_k_X9_orNone, (w.onTables && w.keeps) = true ∨ ∃ ty, w = .arrayClass ty := List.forall_mem_cons.mpr ⟨good_of_word rfl, List.forall_mem_append.mpr ⟨fun w h => good_of_word (List.all_eq_true.mp (by decide +kernel : (([] : List Cond)).all goodWord = true) w h), fun _ h => absurd h List.not_mem_nil⟩⟩
set_option maxHeartbeats 4000000 in
set_option maxRecDepth 100000 in
theorem k_X9_orNone (l : Launch) (D : va_G) (cC cI cZ : ClassId) (sz : Nat) : Met l yX9_orNone sw_k_X9_orNone ({ frames := 2, cells := 0, slots := 0, locals := 100 }) (va_Pc [.int 0] (kPre D cC cI cZ [] sz)) (va_Qi (fun (r : Int32) (_ : Unit) => r = 0) (fun _ _ => True) (fun _ => False)) 0 0 (fun _ => False) := by
  refine Met.ofW (cc := cX9_orNone) (maxL := 1) (ret := (some .int)) (by decide) rfl ?_
  intro p e s m args below meth c s₁ B hml hv
  obtain ⟨rfl, hsz, hP, hK, hD0⟩ := hv
  have hx := B.exec
  have hb := B.bytes
  have hr := B.returns
  have hts := atoms_spec (ws := sw_k_X9_orNone) B.pre
  have hown : s.vm.findClass RX9 = some m.cls := findClass_of_methodNamed B.named
  have hlocks := B.notSynchronized
  subst hsz
  have hD := hD0
  have hS : va_S (fun _ => False) s.heap s.heap [] := va_S.rf
  have hl := lv_entry ([.int 0]) (n := 1) (Nat.le_of_ble_eq_true rfl)
  rw [lg_entry_eq]
  generalize (lg_sl ([.int 0]) ++ List.replicate (1 - (lg_sl ([.int 0])).length) Slot.unset).toArray = ls at hl ⊢
  have hl : lv_has ls 1 [(0, .int 0)] := hl
  refine lv_iload_n hx hb dX9_orNone_0 rfl (lv_at hl 0 rfl) ?_
  refine lv_if_ge (tgt := 9) hx hb dX9_orNone_1 (by decide) (fun _ => ?_) (fun c => absurd (by decide) c)
  refine lv_iload_n hx hb dX9_orNone_9 rfl (lv_at hl 0 rfl) ?_
  exact W.iret (v := 0) hx hb hr (fun t ht hW => ⟨⟨0, (), rfl, rfl, trivial⟩, hS.F ht⟩) hS.2.2 dX9_orNone_10
