def sw_k_X9_turn : List Cond := .code yX9_turn cX9_turn 5 (some .int) :: (([.fieldLink RX9 38 "TopTurned" "space" "LTopTurned$Space;", .methodLink RX9 127 yX5_turnOf, .instanceMethod yX5_turnOf, .selects RX5 yX5_turnOf yX5_turnOf, .initialized RX5, .methodLink RX9 94 yX9_refuse, .instanceMethod yX9_refuse, .selects RX9 yX9_refuse yX9_refuse, .initialized RX9] : List Cond) ++ (wsX90 ++ (sw_k_X5_turnOf ++ (sw_k_X9_refuse_2 ++ (([] : List Cond))))))
theorem gd_k_X9_turn : ∀ w ∈ sw_k_X9_turn, (w.onTables && w.keeps) = true ∨ ∃ ty, w = .arrayClass ty := List.forall_mem_cons.mpr ⟨good_of_word rfl, List.forall_mem_append.mpr ⟨fun w h => good_of_word (List.all_eq_true.mp (by decide +kernel : (([.fieldLink RX9 38 "TopTurned" "space" "LTopTurned$Space;", .methodLink RX9 127 yX5_turnOf, .instanceMethod yX5_turnOf, .selects RX5 yX5_turnOf yX5_turnOf, .initialized RX5, .methodLink RX9 94 yX9_refuse, .instanceMethod yX9_refuse, .selects RX9 yX9_refuse yX9_refuse, .initialized RX9] : List Cond)).all goodWord = true) w h), List.forall_mem_append.mpr ⟨gw_X9, List.forall_mem_append.mpr ⟨gd_k_X5_turnOf, List.forall_mem_append.mpr ⟨gd_k_X9_refuse_2, fun _ h => absurd h List.not_mem_nil⟩⟩⟩⟩⟩
theorem iw_k_X9_turn_X9 : ∀ w ∈ wsX90, w ∈ sw_k_X9_turn := fun _ h => List.mem_cons_of_mem _ (List.mem_append_right _ (List.mem_append_left _ h))
theorem gc_k_X9_turn_k_X5_turnOf : GoodIn sw_k_X9_turn sw_k_X5_turnOf := fun w h => ⟨List.mem_cons_of_mem _ (List.mem_append_right _ (List.mem_append_right _ (List.mem_append_left _ h))), gd_k_X5_turnOf w h⟩
theorem gc_k_X9_turn_k_X9_refuse_2 : GoodIn sw_k_X9_turn sw_k_X9_refuse_2 := fun w h => ⟨List.mem_cons_of_mem _ (List.mem_append_right _ (List.mem_append_right _ (List.mem_append_right _ (List.mem_append_left _ h)))), gd_k_X9_refuse_2 w h⟩
set_option maxHeartbeats 4000000 in
set_option maxRecDepth 100000 in
theorem k_X9_turn (l : Launch) (D : va_G) (cC cI cZ : ClassId) (h0 h1 h2 h3 h4 h5 h6 h7 h8 h9 h10 h11 h12 h13 h14 h15 h16 h17 : Nat) (sz : Nat) (p1 p2 : Int32) : Met l yX9_turn sw_k_X9_turn ({ frames := 4, cells := 0, slots := 0, locals := 200 }) (va_Pc [.ref h0, .int p1, .int p2] (kPre D cC cI cZ [(h0, .inr (9, [.ref h3, .ref h4, .ref h5, .int 0, .ref h6, .ref h1, .ref h7, .ref h8, .ref h9, .ref h10, .ref h11, .ref h2])), (h1, .inr (5, [.int 0, .int 1, .int 1, .int 1, .int 0, .ref h12, .ref h13, .ref h14, .ref h15, .ref h16, .ref h17])), (h2, .inl (cI, 7, .inl (fun _ => 0)))] sz)) (va_Qi (fun (r : Int32) (_ : Unit) => r = (-1)) (fun _ _ => True) (va_A [(h0, .inr (9, [.ref h3, .ref h4, .ref h5, .int 0, .ref h6, .ref h1, .ref h7, .ref h8, .ref h9, .ref h10, .ref h11, .ref h2])), (h1, .inr (5, [.int 0, .int 1, .int 1, .int 1, .int 0, .ref h12, .ref h13, .ref h14, .ref h15, .ref h16, .ref h17])), (h2, .inl (cI, 7, .inl (fun _ => 0)))] sz)) 0 0 (va_A [(h0, .inr (9, [.ref h3, .ref h4, .ref h5, .int 0, .ref h6, .ref h1, .ref h7, .ref h8, .ref h9, .ref h10, .ref h11, .ref h2])), (h1, .inr (5, [.int 0, .int 1, .int 1, .int 1, .int 0, .ref h12, .ref h13, .ref h14, .ref h15, .ref h16, .ref h17])), (h2, .inl (cI, 7, .inl (fun _ => 0)))] sz) := by
  refine Met.ofW (cc := cX9_turn) (maxL := 5) (ret := (some .int)) (by decide) rfl ?_
  intro p e s m args below meth c s₁ B hml hv
  obtain ⟨rfl, hsz, hP, hK, hD0⟩ := hv
  have hx := B.exec
  have hb := B.bytes
  have hr := B.returns
  have hts := atoms_spec (ws := sw_k_X9_turn) B.pre
  have hown : s.vm.findClass RX9 = some m.cls := findClass_of_methodNamed B.named
  have hlocks := B.notSynchronized
  subst hsz
  have hD := hD0.self (sz := s.heap.size)
  generalize hAe : va_A [(h0, .inr (9, [.ref h3, .ref h4, .ref h5, .int 0, .ref h6, .ref h1, .ref h7, .ref h8, .ref h9, .ref h10, .ref h11, .ref h2])), (h1, .inr (5, [.int 0, .int 1, .int 1, .int 1, .int 0, .ref h12, .ref h13, .ref h14, .ref h15, .ref h16, .ref h17])), (h2, .inl (cI, 7, .inl (fun _ => 0)))] s.heap.size = A at hD ⊢
  have hA : ∀ q : Nat, s.heap.size ≤ q → A q := fun q h => by rw [← hAe]; exact Or.inr h
  have hS : va_S A s.heap s.heap [] := va_S.rf
  have hl := lv_entry ([.ref h0, .int p1, .int p2]) (n := 5) (Nat.le_of_ble_eq_true rfl)
  rw [lg_entry_eq]
  generalize (lg_sl ([.ref h0, .int p1, .int p2]) ++ List.replicate (5 - (lg_sl ([.ref h0, .int p1, .int p2])).length) Slot.unset).toArray = ls at hl ⊢
  have hl : lv_has ls 5 [(0, .ref h0), (1, .int p1), (2, .int p2)] := hl
  refine lv_aload_n hx hb dX9_turn_0 rfl (lv_at hl 0 rfl) ?_
  refine va_get (D := D) (ci := 9) (v := .ref h1) (C := RX9) (T := TX9) (N := 12) hx hb hts iw_k_X9_turn_X9 hown hK hP 0 rfl rfl 5 (by decide) (hts (.fieldLink RX9 38 "TopTurned" "space" "LTopTurned$Space;") (by decide +kernel)) (fun _ h9 => h9) rfl dX9_turn_1 ?_
  refine lv_iload_n hx hb dX9_turn_4 rfl (lv_at hl 1 rfl) ?_
  refine lv_iload_n hx hb dX9_turn_5 rfl (lv_at hl 2 rfl) ?_
  have hPc := hP.sub (ws' := [(h1, .inr (5, [.int 0, .int 1, .int 1, .int 1, .int 0, .ref h12, .ref h13, .ref h14, .ref h15, .ref h16, .ref h17]))]) [1] rfl
  have hDc := hD.sub (ws' := [(h1, .inr (5, [.int 0, .int 1, .int 1, .int 1, .int 0, .ref h12, .ref h13, .ref h14, .ref h15, .ref h16, .ref h17]))]) [1] (by decide) rfl
  refine va_calli (va_runV (As := [.int p1, .int p2]) (rest := []) ⟨hx, hb, hml, hown, hts⟩ (k_X5_turnOf l D cC cI cZ h1 h12 h13 h14 h15 h16 h17 s.heap.size p1 p2) (cwV (C := RX5) 2 hts (goodIn_app (goodIn_of _ (by decide +kernel)) gc_k_X9_turn_k_X5_turnOf) rfl rfl rfl (by decide +kernel) ⟨(Nat.le_of_ble_eq_true rfl), (Nat.le_of_ble_eq_true rfl)⟩) (kPreV hK hPc hDc (va_recv hK hPc (ci := 5) (q0 := 0) rfl rfl)) rfl rfl hl.1 rfl (lv_room (Nat.le_of_ble_eq_true rfl)) dX9_turn_6 ⟨(Nat.le_of_ble_eq_true rfl), (Nat.le_of_ble_eq_true rfl)⟩) hS (fun q _ h => False.elim h) (fun q h => False.elim h) (fun r1 u t H1 locs ht hvm hw hB hz1 hk1 hS => ?_)
  have hP := hP.kept (H1 := H1) (fun k q hk => hk1 q.1 (hP k q hk).lt (fun h => h))
  generalize H1 = H at hP hS ⊢
  have hw : r1 = (-1) := hw
  subst hw
  refine lv_istore_n (lv' := [(3, .int (-1)), (0, .ref h0), (1, .int p1), (2, .int p2)]) hx hb dX9_turn_9 rfl hl (by decide) rfl (fun ls hl => ?_)
  refine lv_iload_n hx hb dX9_turn_10 rfl (lv_at hl 0 rfl) ?_
  refine lv_if_ge (tgt := 20) hx hb dX9_turn_11 (by decide) (fun c => absurd c (by decide)) (fun _ => ?_)
  refine lv_aload_n hx hb dX9_turn_14 rfl (lv_at hl 1 rfl) ?_
  refine lv_iconst (v := (-1)) hx hb dX9_turn_15 (by decide) ?_
  have hPc := hP.sub (ws' := [(h0, .inr (9, [.ref h3, .ref h4, .ref h5, .int 0, .ref h6, .ref h1, .ref h7, .ref h8, .ref h9, .ref h10, .ref h11, .ref h2])), (h2, .inl (cI, 7, .inl (fun _ => 0)))]) [0, 2] rfl
  have hDc := hD.sub (ws' := [(h0, .inr (9, [.ref h3, .ref h4, .ref h5, .int 0, .ref h6, .ref h1, .ref h7, .ref h8, .ref h9, .ref h10, .ref h11, .ref h2])), (h2, .inl (cI, 7, .inl (fun _ => 0)))]) [0, 2] (by decide) rfl
  have hFc := va_free (wc := [(h0, .inr (9, [.ref h3, .ref h4, .ref h5, .int 0, .ref h6, .ref h1, .ref h7, .ref h8, .ref h9, .ref h10, .ref h11, .ref h2])), (h2, .inl (cI, 7, .inl (fun _ => 0)))]) hD hS hA [0, 2] rfl
  refine va_calli (va_runV (As := [.int (-1)]) (rest := []) ⟨hx, hb, hml, hown, hts⟩ (k_X9_refuse_2 l D cC cI cZ h0 h2 h3 h4 h5 h6 h1 h7 h8 h9 h10 h11 H.size ) (cwV (C := RX9) 1 hts (goodIn_app (goodIn_of _ (by decide +kernel)) gc_k_X9_turn_k_X9_refuse_2) rfl rfl rfl (by decide +kernel) ⟨(Nat.le_of_ble_eq_true rfl), (Nat.le_of_ble_eq_true rfl)⟩) (kPreV hK hPc hDc (va_recv hK hPc (ci := 9) (q0 := 0) rfl rfl)) rfl rfl hl.1 rfl (lv_room (Nat.le_of_ble_eq_true rfl)) dX9_turn_16 ⟨(Nat.le_of_ble_eq_true rfl), (Nat.le_of_ble_eq_true rfl)⟩) hS (fun q _ h => hFc q h) hFc (fun r2 u t H1 locs ht hvm hw hB hz1 hk1 hS => ?_)
  obtain ⟨hP1, hD1⟩ := hB
  rw [ht] at hP1
  obtain ⟨hP, hD⟩ := va_join (wr := [(h1, .inr (5, [.int 0, .int 1, .int 1, .int 1, .int 0, .ref h12, .ref h13, .ref h14, .ref h15, .ref h16, .ref h17]))]) (w1 := [(h0, .inr (9, [.ref h3, .ref h4, .ref h5, .int 0, .ref h6, .ref h1, .ref h7, .ref h8, .ref h9, .ref h10, .ref h11, .ref h2])), (h2, .inl (cI, 7, .inl (upd (fun _ => 0) (Int32.toNatClampNeg 1) 1)))]) hP hD [0, 2] [1] rfl rfl (by decide) (by decide) hk1 hFc hP1 hD1
  generalize H1 = H at hP hS ⊢
  have hP : va_P D vwCl [(h1, .inr (5, [.int 0, .int 1, .int 1, .int 1, .int 0, .ref h12, .ref h13, .ref h14, .ref h15, .ref h16, .ref h17])), (h0, .inr (9, [.ref h3, .ref h4, .ref h5, .int 0, .ref h6, .ref h1, .ref h7, .ref h8, .ref h9, .ref h10, .ref h11, .ref h2])), (h2, .inl (cI, 7, .inl (upd (fun _ => 0) (Int32.toNatClampNeg 1) 1)))] H := hP
  have hD : va_D A [(h1, .inr (5, [.int 0, .int 1, .int 1, .int 1, .int 0, .ref h12, .ref h13, .ref h14, .ref h15, .ref h16, .ref h17])), (h0, .inr (9, [.ref h3, .ref h4, .ref h5, .int 0, .ref h6, .ref h1, .ref h7, .ref h8, .ref h9, .ref h10, .ref h11, .ref h2])), (h2, .inl (cI, 7, .inl (upd (fun _ => 0) (Int32.toNatClampNeg 1) 1)))] := hD
  have hw : r2 = (-1) := hw
  subst hw
  refine W.widen (k := 0) (n := 0) (Nat.le_of_ble_eq_true rfl) (Nat.le_of_ble_eq_true rfl) ?_
  exact W.iret (v := (-1)) hx hb hr (fun t ht hW => ⟨⟨(-1), (), rfl, rfl, trivial⟩, hS.F ht⟩) hS.2.2 dX9_turn_19
def sw_k_X5_orderOf : List Cond := .code yX5_orderOf cX5_orderOf 6 (some .int) :: (([.fieldLink RX5 40 "TopTurned$Space" "plates" "I"] : List Cond) ++ (wsX50 ++ (([] : List Cond))))
theorem gd_k_X5_orderOf : ∀ w ∈ sw_k_X5_orderOf, (w.onTables && w.keeps) = true ∨ ∃ ty, w = .arrayClass ty := List.forall_mem_cons.mpr ⟨good_of_word rfl, List.forall_mem_append.mpr ⟨fun w h => good_of_word (List.all_eq_true.mp (by decide +kernel : (([.fieldLink RX5 40 "TopTurned$Space" "plates" "I"] : List Cond)).all goodWord = true) w h), List.forall_mem_append.mpr ⟨gw_X5, fun _ h => absurd h List.not_mem_nil⟩⟩⟩
theorem iw_k_X5_orderOf_X5 : ∀ w ∈ wsX50, w ∈ sw_k_X5_orderOf := fun _ h => List.mem_cons_of_mem _ (List.mem_append_right _ (List.mem_append_left _ h))
set_option maxHeartbeats 4000000 in
set_option maxRecDepth 100000 in
theorem k_X5_orderOf (l : Launch) (D : va_G) (cC cI cZ : ClassId) (h0 h1 h2 h3 h4 h5 h6 h7 : Nat) (sz : Nat) : Met l yX5_orderOf sw_k_X5_orderOf ({ frames := 2, cells := 0, slots := 0, locals := 100 }) (va_Pc [.ref h0, .ref h1] (kPre D cC cI cZ [(h0, .inr (5, [.int 0, .int 1, .int 1, .int 1, .int 0, .ref h2, .ref h3, .ref h4, .ref h5, .ref h6, .ref h7]))] sz)) (va_Qi (fun (r : Int32) (_ : Unit) => r = 0) (fun _ _ => True) (fun _ => False)) 0 0 (fun _ => False) := by
  refine Met.ofW (cc := cX5_orderOf) (maxL := 6) (ret := (some .int)) (by decide) rfl ?_
  intro p e s m args below meth c s₁ B hml hv
  obtain ⟨rfl, hsz, hP, hK, hD0⟩ := hv
  have hx := B.exec
  have hb := B.bytes
  have hr := B.returns
  have hts := atoms_spec (ws := sw_k_X5_orderOf) B.pre
  have hown : s.vm.findClass RX5 = some m.cls := findClass_of_methodNamed B.named
  have hlocks := B.notSynchronized
  subst hsz
  have hD := hD0
  have hS : va_S (fun _ => False) s.heap s.heap [] := va_S.rf
  have hl := lv_entry ([.ref h0, .ref h1]) (n := 6) (Nat.le_of_ble_eq_true rfl)
  rw [lg_entry_eq]
  generalize (lg_sl ([.ref h0, .ref h1]) ++ List.replicate (6 - (lg_sl ([.ref h0, .ref h1])).length) Slot.unset).toArray = ls at hl ⊢
  have hl : lv_has ls 6 [(0, .ref h0), (1, .ref h1)] := hl
  refine lv_iconst (v := 0) hx hb dX5_orderOf_0 (by decide) ?_
  refine lv_istore_n (lv' := [(2, .int 0), (0, .ref h0), (1, .ref h1)]) hx hb dX5_orderOf_1 rfl hl (by decide) rfl (fun ls hl => ?_)
  refine lv_iconst (v := 0) hx hb dX5_orderOf_2 (by decide) ?_
  refine lv_istore_n (lv' := [(3, .int 0), (2, .int 0), (0, .ref h0), (1, .ref h1)]) hx hb dX5_orderOf_3 rfl hl (by decide) rfl (fun ls hl => ?_)
  refine lv_iload_n hx hb dX5_orderOf_4 rfl (lv_at hl 0 rfl) ?_
  refine lv_aload_n hx hb dX5_orderOf_5 rfl (lv_at hl 2 rfl) ?_
  refine va_get (D := D) (ci := 5) (v := .int 0) (C := RX5) (T := TX5) (N := 11) hx hb hts iw_k_X5_orderOf_X5 hown hK hP 0 rfl rfl 0 (by decide) (hts (.fieldLink RX5 40 "TopTurned$Space" "plates" "I") (by decide +kernel)) (fun _ h9 => h9) rfl dX5_orderOf_6 ?_
  refine lv_icmp_ge (tgt := 72) hx hb dX5_orderOf_9 (by decide) (fun _ => ?_) (fun c => absurd (by decide) c)
  refine lv_iload_n hx hb dX5_orderOf_72 rfl (lv_at hl 1 rfl) ?_
  exact W.iret (v := 0) hx hb hr (fun t ht hW => ⟨⟨0, (), rfl, rfl, trivial⟩, hS.F ht⟩) hS.2.2 dX5_orderOf_73
def sw_k_X5_sidesOf : List Cond := .code yX5_sidesOf cX5_sidesOf 4 (some .int) :: (([.fieldLink RX5 40 "TopTurned$Space" "plates" "I"] : List Cond) ++ (wsX50 ++ (([] : List Cond))))
theorem gd_k_X5_sidesOf : ∀ w ∈ sw_k_X5_sidesOf, (w.onTables && w.keeps) = true ∨ ∃ ty, w = .arrayClass ty := List.forall_mem_cons.mpr ⟨good_of_word rfl, List.forall_mem_append.mpr ⟨fun w h => good_of_word (List.all_eq_true.mp (by decide +kernel : (([.fieldLink RX5 40 "TopTurned$Space" "plates" "I"] : List Cond)).all goodWord = true) w h), List.forall_mem_append.mpr ⟨gw_X5, fun _ h => absurd h List.not_mem_nil⟩⟩⟩
theorem iw_k_X5_sidesOf_X5 : ∀ w ∈ wsX50, w ∈ sw_k_X5_sidesOf := fun _ h => List.mem_cons_of_mem _ (List.mem_append_right _ (List.mem_append_left _ h))
set_option maxHeartbeats 4000000 in
set_option maxRecDepth 100000 in
theorem k_X5_sidesOf (l : Launch) (D : va_G) (cC cI cZ : ClassId) (h0 h1 h2 h3 h4 h5 h6 h7 : Nat) (sz : Nat) : Met l yX5_sidesOf sw_k_X5_sidesOf ({ frames := 2, cells := 0, slots := 0, locals := 100 }) (va_Pc [.ref h0, .ref h1] (kPre D cC cI cZ [(h0, .inr (5, [.int 0, .int 1, .int 1, .int 1, .int 0, .ref h2, .ref h3, .ref h4, .ref h5, .ref h6, .ref h7]))] sz)) (va_Qi (fun (r : Int32) (_ : Unit) => r = 0) (fun _ _ => True) (fun _ => False)) 0 0 (fun _ => False) := by
  refine Met.ofW (cc := cX5_sidesOf) (maxL := 4) (ret := (some .int)) (by decide) rfl ?_
  intro p e s m args below meth c s₁ B hml hv
  obtain ⟨rfl, hsz, hP, hK, hD0⟩ := hv
  have hx := B.exec
  have hb := B.bytes
  have hr := B.returns
  have hts := atoms_spec (ws := sw_k_X5_sidesOf) B.pre
  have hown : s.vm.findClass RX5 = some m.cls := findClass_of_methodNamed B.named
  have hlocks := B.notSynchronized
  subst hsz
  have hD := hD0
  have hS : va_S (fun _ => False) s.heap s.heap [] := va_S.rf
  have hl := lv_entry ([.ref h0, .ref h1]) (n := 4) (Nat.le_of_ble_eq_true rfl)
  rw [lg_entry_eq]
  generalize (lg_sl ([.ref h0, .ref h1]) ++ List.replicate (4 - (lg_sl ([.ref h0, .ref h1])).length) Slot.unset).toArray = ls at hl ⊢
  have hl : lv_has ls 4 [(0, .ref h0), (1, .ref h1)] := hl
  refine lv_iconst (v := 0) hx hb dX5_sidesOf_0 (by decide) ?_
  refine lv_istore_n (lv' := [(2, .int 0), (0, .ref h0), (1, .ref h1)]) hx hb dX5_sidesOf_1 rfl hl (by decide) rfl (fun ls hl => ?_)
  refine lv_iconst (v := 0) hx hb dX5_sidesOf_2 (by decide) ?_
  refine lv_istore_n (lv' := [(3, .int 0), (2, .int 0), (0, .ref h0), (1, .ref h1)]) hx hb dX5_sidesOf_3 rfl hl (by decide) rfl (fun ls hl => ?_)
  refine lv_iload_n hx hb dX5_sidesOf_4 rfl (lv_at hl 0 rfl) ?_
  refine lv_aload_n hx hb dX5_sidesOf_5 rfl (lv_at hl 2 rfl) ?_
  refine va_get (D := D) (ci := 5) (v := .int 0) (C := RX5) (T := TX5) (N := 11) hx hb hts iw_k_X5_sidesOf_X5 hown hK hP 0 rfl rfl 0 (by decide) (hts (.fieldLink RX5 40 "TopTurned$Space" "plates" "I") (by decide +kernel)) (fun _ h9 => h9) rfl dX5_sidesOf_6 ?_
  refine lv_icmp_ge (tgt := 29) hx hb dX5_sidesOf_9 (by decide) (fun _ => ?_) (fun c => absurd (by decide) c)
  refine lv_iload_n hx hb dX5_sidesOf_29 rfl (lv_at hl 1 rfl) ?_
  exact W.iret (v := 0) hx hb hr (fun t ht hW => ⟨⟨0, (), rfl, rfl, trivial⟩, hS.F ht⟩) hS.2.2 dX5_sidesOf_30
def sw_k_X5_stateOf : List Cond := .code yX5_stateOf cX5_stateOf 2 (some .int) :: (([.methodLink RX5 76 yX5_orderOf, .instanceMethod yX5_orderOf, .selects RX5 yX5_orderOf yX5_orderOf, .initialized RX5, .fieldLink RX5 40 "TopTurned$Space" "plates" "I", .methodLink RX5 84 yX5_sidesOf, .instanceMethod yX5_sidesOf, .selects RX5 yX5_sidesOf yX5_sidesOf] : List Cond) ++ (sw_k_X5_orderOf ++ (wsX50 ++ (sw_k_X5_sidesOf ++ (([] : List Cond))))))
theorem gd_k_X5_stateOf : ∀ w ∈ sw_k_X5_stateOf, (w.onTables && w.keeps) = true ∨ ∃ ty, w = .arrayClass ty := List.forall_mem_cons.mpr ⟨good_of_word rfl, List.forall_mem_append.mpr ⟨fun w h => good_of_word (List.all_eq_true.mp (by decide +kernel : (([.methodLink RX5 76 yX5_orderOf, .instanceMethod yX5_orderOf, .selects RX5 yX5_orderOf yX5_orderOf, .initialized RX5, .fieldLink RX5 40 "TopTurned$Space" "plates" "I", .methodLink RX5 84 yX5_sidesOf, .instanceMethod yX5_sidesOf, .selects RX5 yX5_sidesOf yX5_sidesOf] : List Cond)).all goodWord = true) w h), List.forall_mem_append.mpr ⟨gd_k_X5_orderOf, List.forall_mem_append.mpr ⟨gw_X5, List.forall_mem_append.mpr ⟨gd_k_X5_sidesOf, fun _ h => absurd h List.not_mem_nil⟩⟩⟩⟩⟩
theorem gc_k_X5_stateOf_k_X5_orderOf : GoodIn sw_k_X5_stateOf sw_k_X5_orderOf := fun w h => ⟨List.mem_cons_of_mem _ (List.mem_append_right _ (List.mem_append_left _ h)), gd_k_X5_orderOf w h⟩
theorem iw_k_X5_stateOf_X5 : ∀ w ∈ wsX50, w ∈ sw_k_X5_stateOf := fun _ h => List.mem_cons_of_mem _ (List.mem_append_right _ (List.mem_append_right _ (List.mem_append_left _ h)))
theorem gc_k_X5_stateOf_k_X5_sidesOf : GoodIn sw_k_X5_stateOf sw_k_X5_sidesOf := fun w h => ⟨List.mem_cons_of_mem _ (List.mem_append_right _ (List.mem_append_right _ (List.mem_append_right _ (List.mem_append_left _ h)))), gd_k_X5_sidesOf w h⟩
set_option maxHeartbeats 4000000 in
set_option maxRecDepth 100000 in
theorem k_X5_stateOf (l : Launch) (D : va_G) (cC cI cZ : ClassId) (h0 h1 h2 h3 h4 h5 h6 h7 : Nat) (sz : Nat) : Met l yX5_stateOf sw_k_X5_stateOf ({ frames := 4, cells := 0, slots := 0, locals := 200 }) (va_Pc [.ref h0, .ref h1] (kPre D cC cI cZ [(h0, .inr (5, [.int 0, .int 1, .int 1, .int 1, .int 0, .ref h2, .ref h3, .ref h4, .ref h5, .ref h6, .ref h7]))] sz)) (va_Qi (fun (r : Int32) (_ : Unit) => r = 0) (fun _ _ => True) (fun _ => False)) 0 0 (fun _ => False) := by
  refine Met.ofW (cc := cX5_stateOf) (maxL := 2) (ret := (some .int)) (by decide) rfl ?_
  intro p e s m args below meth c s₁ B hml hv
  obtain ⟨rfl, hsz, hP, hK, hD0⟩ := hv
  have hx := B.exec
  have hb := B.bytes
  have hr := B.returns
  have hts := atoms_spec (ws := sw_k_X5_stateOf) B.pre
  have hown : s.vm.findClass RX5 = some m.cls := findClass_of_methodNamed B.named
  have hlocks := B.notSynchronized
  subst hsz
  have hD := hD0
  have hS : va_S (fun _ => False) s.heap s.heap [] := va_S.rf
  have hl := lv_entry ([.ref h0, .ref h1]) (n := 2) (Nat.le_of_ble_eq_true rfl)
  rw [lg_entry_eq]
  generalize (lg_sl ([.ref h0, .ref h1]) ++ List.replicate (2 - (lg_sl ([.ref h0, .ref h1])).length) Slot.unset).toArray = ls at hl ⊢
  have hl : lv_has ls 2 [(0, .ref h0), (1, .ref h1)] := hl
  refine lv_aload_n hx hb dX5_stateOf_0 rfl (lv_at hl 0 rfl) ?_
  refine lv_aload_n hx hb dX5_stateOf_1 rfl (lv_at hl 1 rfl) ?_
  have hPc := hP.sub (ws' := [(h0, .inr (5, [.int 0, .int 1, .int 1, .int 1, .int 0, .ref h2, .ref h3, .ref h4, .ref h5, .ref h6, .ref h7]))]) [0] rfl
  have hDc := hD.sub (ws' := [(h0, .inr (5, [.int 0, .int 1, .int 1, .int 1, .int 0, .ref h2, .ref h3, .ref h4, .ref h5, .ref h6, .ref h7]))]) [0] (by decide) rfl
  refine va_calli (va_runV (As := [.ref h1]) (rest := []) ⟨hx, hb, hml, hown, hts⟩ (k_X5_orderOf l D cC cI cZ h0 h1 h2 h3 h4 h5 h6 h7 s.heap.size ) (cwV (C := RX5) 1 hts (goodIn_app (goodIn_of _ (by decide +kernel)) gc_k_X5_stateOf_k_X5_orderOf) rfl rfl rfl (by decide +kernel) ⟨(Nat.le_of_ble_eq_true rfl), (Nat.le_of_ble_eq_true rfl)⟩) (kPreV hK hPc hDc (va_recv hK hPc (ci := 5) (q0 := 0) rfl rfl)) rfl rfl hl.1 rfl (lv_room (Nat.le_of_ble_eq_true rfl)) dX5_stateOf_2 ⟨(Nat.le_of_ble_eq_true rfl), (Nat.le_of_ble_eq_true rfl)⟩) hS (fun q _ h => False.elim h) (fun q h => False.elim h) (fun r1 u t H1 locs ht hvm hw hB hz1 hk1 hS => ?_)
  have hP := hP.kept (H1 := H1) (fun k q hk => hk1 q.1 (hP k q hk).lt (fun h => h))
  generalize H1 = H at hP hS ⊢
  have hw : r1 = 0 := hw
  subst hw
  refine lv_aload_n hx hb dX5_stateOf_5 rfl (lv_at hl 0 rfl) ?_
  refine va_get (D := D) (ci := 5) (v := .int 0) (C := RX5) (T := TX5) (N := 11) hx hb hts iw_k_X5_stateOf_X5 hown hK hP 0 rfl rfl 0 (by decide) (hts (.fieldLink RX5 40 "TopTurned$Space" "plates" "I") (by decide +kernel)) (fun _ h9 => h9) rfl dX5_stateOf_6 ?_
  refine lv_ishl hx hb dX5_stateOf_9 ?_
  refine kt_eq (y := 0) (by decide +kernel) ?_
  refine lv_aload_n hx hb dX5_stateOf_10 rfl (lv_at hl 0 rfl) ?_
  refine lv_aload_n hx hb dX5_stateOf_11 rfl (lv_at hl 1 rfl) ?_
  have hPc := hP.sub (ws' := [(h0, .inr (5, [.int 0, .int 1, .int 1, .int 1, .int 0, .ref h2, .ref h3, .ref h4, .ref h5, .ref h6, .ref h7]))]) [0] rfl
  have hDc := hD.sub (ws' := [(h0, .inr (5, [.int 0, .int 1, .int 1, .int 1, .int 0, .ref h2, .ref h3, .ref h4, .ref h5, .ref h6, .ref h7]))]) [0] (by decide) rfl
  refine va_calli (va_runV (As := [.ref h1]) (rest := [.int 0]) ⟨hx, hb, hml, hown, hts⟩ (k_X5_sidesOf l D cC cI cZ h0 h1 h2 h3 h4 h5 h6 h7 H.size ) (cwV (C := RX5) 1 hts (goodIn_app (goodIn_of _ (by decide +kernel)) gc_k_X5_stateOf_k_X5_sidesOf) rfl rfl rfl (by decide +kernel) ⟨(Nat.le_of_ble_eq_true rfl), (Nat.le_of_ble_eq_true rfl)⟩) (kPreV hK hPc hDc (va_recv hK hPc (ci := 5) (q0 := 0) rfl rfl)) rfl rfl hl.1 rfl (lv_room (Nat.le_of_ble_eq_true rfl)) dX5_stateOf_12 ⟨(Nat.le_of_ble_eq_true rfl), (Nat.le_of_ble_eq_true rfl)⟩) hS (fun q _ h => False.elim h) (fun q h => False.elim h) (fun r2 u t H1 locs ht hvm hw hB hz1 hk1 hS => ?_)
  have hP := hP.kept (H1 := H1) (fun k q hk => hk1 q.1 (hP k q hk).lt (fun h => h))
  generalize H1 = H at hP hS ⊢
  have hw : r2 = 0 := hw
  subst hw
  refine lv_ior hx hb dX5_stateOf_15 ?_
  refine kt_eq (y := 0) (by decide +kernel) ?_
  exact W.iret (v := 0) hx hb hr (fun t ht hW => ⟨⟨0, (), rfl, rfl, trivial⟩, hS.F ht⟩) hS.2.2 dX5_stateOf_16
def sw_k_X9_heapState : List Cond := .code yX9_heapState cX9_heapState 1 (some .int) :: (([.fieldLink RX9 38 "TopTurned" "space" "LTopTurned$Space;", .fieldLink RX9 10 "TopTurned" "now" "LTopTurned$Told;", .fieldLink RX9 118 "TopTurned$Told" "heap" "[I", .methodLink RX9 202 yX5_stateOf, .instanceMethod yX5_stateOf, .selects RX5 yX5_stateOf yX5_stateOf, .initialized RX5] : List Cond) ++ (wsX90 ++ (wsX60 ++ (sw_k_X5_stateOf ++ (([] : List Cond))))))
theorem gd_k_X9_heapState : ∀ w ∈ sw_k_X9_heapState, (w.onTables && w.keeps) = true ∨ ∃ ty, w = .arrayClass ty := List.forall_mem_cons.mpr ⟨good_of_word rfl, List.forall_mem_append.mpr ⟨fun w h => good_of_word (List.all_eq_true.mp (by decide +kernel : (([.fieldLink RX9 38 "TopTurned" "space" "LTopTurned$Space;", .fieldLink RX9 10 "TopTurned" "now" "LTopTurned$Told;", .fieldLink RX9 118 "TopTurned$Told" "heap" "[I", .methodLink RX9 202 yX5_stateOf, .instanceMethod yX5_stateOf, .selects RX5 yX5_stateOf yX5_stateOf, .initialized RX5] : List Cond)).all goodWord = true) w h), List.forall_mem_append.mpr ⟨gw_X9, List.forall_mem_append.mpr ⟨gw_X6, List.forall_mem_append.mpr ⟨gd_k_X5_stateOf, fun _ h => absurd h List.not_mem_nil⟩⟩⟩⟩⟩
theorem iw_k_X9_heapState_X9 : ∀ w ∈ wsX90, w ∈ sw_k_X9_heapState := fun _ h => List.mem_cons_of_mem _ (List.mem_append_right _ (List.mem_append_left _ h))
theorem iw_k_X9_heapState_X6 : ∀ w ∈ wsX60, w ∈ sw_k_X9_heapState := fun _ h => List.mem_cons_of_mem _ (List.mem_append_right _ (List.mem_append_right _ (List.mem_append_left _ h)))
theorem gc_k_X9_heapState_k_X5_stateOf : GoodIn sw_k_X9_heapState sw_k_X5_stateOf := fun w h => ⟨List.mem_cons_of_mem _ (List.mem_append_right _ (List.mem_append_right _ (List.mem_append_right _ (List.mem_append_left _ h)))), gd_k_X5_stateOf w h⟩
set_option maxHeartbeats 4000000 in
set_option maxRecDepth 100000 in
theorem k_X9_heapState (l : Launch) (D : va_G) (cC cI cZ : ClassId) (h0 h1 h2 h3 h4 h5 h6 h7 h8 h9 h10 h11 h12 h13 h14 h15 h16 h17 h18 h19 h20 h21 h22 h23 : Nat) (sz : Nat) : Met l yX9_heapState sw_k_X9_heapState ({ frames := 6, cells := 0, slots := 0, locals := 300 }) (va_Pc [.ref h0] (kPre D cC cI cZ [(h0, .inr (9, [.ref h1, .ref h3, .ref h4, .int 0, .ref h5, .ref h2, .ref h6, .ref h7, .ref h8, .ref h9, .ref h10, .ref h11])), (h1, .inr (6, [.int 0, .ref h12, .ref h13, .int 0, .int 5, .int 9, .int 0, .int 1, .int 0, .int 0, .ref h14, .ref h15, .int 0, .ref h16, .int 0, .ref h17, .int 0])), (h2, .inr (5, [.int 0, .int 1, .int 1, .int 1, .int 0, .ref h18, .ref h19, .ref h20, .ref h21, .ref h22, .ref h23]))] sz)) (va_Qi (fun (r : Int32) (_ : Unit) => r = 0) (fun _ _ => True) (fun _ => False)) 0 0 (fun _ => False) := by
  refine Met.ofW (cc := cX9_heapState) (maxL := 1) (ret := (some .int)) (by decide) rfl ?_
  intro p e s m args below meth c s₁ B hml hv
  obtain ⟨rfl, hsz, hP, hK, hD0⟩ := hv
  have hx := B.exec
  have hb := B.bytes
  have hr := B.returns
  have hts := atoms_spec (ws := sw_k_X9_heapState) B.pre
  have hown : s.vm.findClass RX9 = some m.cls := findClass_of_methodNamed B.named
  have hlocks := B.notSynchronized
  subst hsz
  have hD := hD0
  have hS : va_S (fun _ => False) s.heap s.heap [] := va_S.rf
  have hl := lv_entry ([.ref h0]) (n := 1) (Nat.le_of_ble_eq_true rfl)
  rw [lg_entry_eq]
  generalize (lg_sl ([.ref h0]) ++ List.replicate (1 - (lg_sl ([.ref h0])).length) Slot.unset).toArray = ls at hl ⊢
  have hl : lv_has ls 1 [(0, .ref h0)] := hl
  refine lv_aload_n hx hb dX9_heapState_0 rfl (lv_at hl 0 rfl) ?_
  refine va_get (D := D) (ci := 9) (v := .ref h2) (C := RX9) (T := TX9) (N := 12) hx hb hts iw_k_X9_heapState_X9 hown hK hP 0 rfl rfl 5 (by decide) (hts (.fieldLink RX9 38 "TopTurned" "space" "LTopTurned$Space;") (by decide +kernel)) (fun _ h9 => h9) rfl dX9_heapState_1 ?_
  refine lv_aload_n hx hb dX9_heapState_4 rfl (lv_at hl 0 rfl) ?_
  refine va_get (D := D) (ci := 9) (v := .ref h1) (C := RX9) (T := TX9) (N := 12) hx hb hts iw_k_X9_heapState_X9 hown hK hP 0 rfl rfl 0 (by decide) (hts (.fieldLink RX9 10 "TopTurned" "now" "LTopTurned$Told;") (by decide +kernel)) (fun _ h9 => h9) rfl dX9_heapState_5 ?_
  refine va_get (D := D) (ci := 6) (v := .ref h13) (C := RX6) (T := TX6) (N := 17) hx hb hts iw_k_X9_heapState_X6 hown hK hP 1 rfl rfl 2 (by decide) (hts (.fieldLink RX9 118 "TopTurned$Told" "heap" "[I") (by decide +kernel)) (fun _ h9 => h9) rfl dX9_heapState_8 ?_
  have hPc := hP.sub (ws' := [(h2, .inr (5, [.int 0, .int 1, .int 1, .int 1, .int 0, .ref h18, .ref h19, .ref h20, .ref h21, .ref h22, .ref h23]))]) [2] rfl
  have hDc := hD.sub (ws' := [(h2, .inr (5, [.int 0, .int 1, .int 1, .int 1, .int 0, .ref h18, .ref h19, .ref h20, .ref h21, .ref h22, .ref h23]))]) [2] (by decide) rfl
  refine va_calli (va_runV (As := [.ref h13]) (rest := []) ⟨hx, hb, hml, hown, hts⟩ (k_X5_stateOf l D cC cI cZ h2 h13 h18 h19 h20 h21 h22 h23 s.heap.size ) (cwV (C := RX5) 1 hts (goodIn_app (goodIn_of _ (by decide +kernel)) gc_k_X9_heapState_k_X5_stateOf) rfl rfl rfl (by decide +kernel) ⟨(Nat.le_of_ble_eq_true rfl), (Nat.le_of_ble_eq_true rfl)⟩) (kPreV hK hPc hDc (va_recv hK hPc (ci := 5) (q0 := 0) rfl rfl)) rfl rfl hl.1 rfl (lv_room (Nat.le_of_ble_eq_true rfl)) dX9_heapState_11 ⟨(Nat.le_of_ble_eq_true rfl), (Nat.le_of_ble_eq_true rfl)⟩) hS (fun q _ h => False.elim h) (fun q h => False.elim h) (fun r1 u t H1 locs ht hvm hw hB hz1 hk1 hS => ?_)
  have hP := hP.kept (H1 := H1) (fun k q hk => hk1 q.1 (hP k q hk).lt (fun h => h))
  generalize H1 = H at hP hS ⊢
  have hw : r1 = 0 := hw
  subst hw
  exact W.iret (v := 0) hx hb hr (fun t ht hW => ⟨⟨0, (), rfl, rfl, trivial⟩, hS.F ht⟩) hS.2.2 dX9_heapState_14
def sw_k_X3_arranged : List Cond := .code yX3_arranged cX3_arranged 3 (some .boolean) :: (([.fieldLink RX3 26 "TopTurned$Rules" "space" "LTopTurned$Space;", .fieldLink RX3 94 "TopTurned$Space" "sides" "I", .fieldLink RX3 15 "TopTurned$Rules" "sorted" "[Z", .fieldLink RX3 67 "TopTurned$Space" "plates" "I"] : List Cond) ++ (wsX30 ++ (wsX50 ++ (([] : List Cond)))))
theorem gd_k_X3_arranged : ∀ w ∈ sw_k_X3_arranged, (w.onTables && w.keeps) = true ∨ ∃ ty, w = .arrayClass ty := List.forall_mem_cons.mpr ⟨good_of_word rfl, List.forall_mem_append.mpr ⟨fun w h => good_of_word (List.all_eq_true.mp (by decide +kernel : (([.fieldLink RX3 26 "TopTurned$Rules" "space" "LTopTurned$Space;", .fieldLink RX3 94 "TopTurned$Space" "sides" "I", .fieldLink RX3 15 "TopTurned$Rules" "sorted" "[Z", .fieldLink RX3 67 "TopTurned$Space" "plates" "I"] : List Cond)).all goodWord = true) w h), List.forall_mem_append.mpr ⟨gw_X3, List.forall_mem_append.mpr ⟨gw_X5, fun _ h => absurd h List.not_mem_nil⟩⟩⟩⟩
theorem iw_k_X3_arranged_X3 : ∀ w ∈ wsX30, w ∈ sw_k_X3_arranged := fun _ h => List.mem_cons_of_mem _ (List.mem_append_right _ (List.mem_append_left _ h))
theorem iw_k_X3_arranged_X5 : ∀ w ∈ wsX50, w ∈ sw_k_X3_arranged := fun _ h => List.mem_cons_of_mem _ (List.mem_append_right _ (List.mem_append_right _ (List.mem_append_left _ h)))
set_option maxHeartbeats 4000000 in
set_option maxRecDepth 100000 in
theorem k_X3_arranged (l : Launch) (D : va_G) (cC cI cZ : ClassId) (h0 h1 h2 h3 h4 h5 h6 h7 h8 h9 h10 h11 : Nat) (sz : Nat) : Met l yX3_arranged sw_k_X3_arranged ({ frames := 2, cells := 0, slots := 0, locals := 100 }) (va_Pc [.ref h0, .int 0] (kPre D cC cI cZ [(h0, .inr (3, [.ref h3, .ref h1, .ref h4, .ref h2, .ref h5, .int 0])), (h1, .inr (5, [.int 0, .int 1, .int 1, .int 1, .int 0, .ref h6, .ref h7, .ref h8, .ref h9, .ref h10, .ref h11])), (h2, .inl (cZ, 120, .inl (upd (fun _ => 0) (Int32.toNatClampNeg 0) (vp_nar .boolean 1))))] sz)) (va_Qi (fun (r : Int32) (_ : Unit) => r = 1) (fun _ _ => True) (fun _ => False)) 0 0 (fun _ => False) := by
  refine Met.ofW (cc := cX3_arranged) (maxL := 3) (ret := (some .boolean)) (by decide) rfl ?_
  intro p e s m args below meth c s₁ B hml hv
  obtain ⟨rfl, hsz, hP, hK, hD0⟩ := hv
  have hx := B.exec
  have hb := B.bytes
  have hr := B.returns
  have hts := atoms_spec (ws := sw_k_X3_arranged) B.pre
  have hown : s.vm.findClass RX3 = some m.cls := findClass_of_methodNamed B.named
  have hlocks := B.notSynchronized
  subst hsz
  have hD := hD0
  have hS : va_S (fun _ => False) s.heap s.heap [] := va_S.rf
  have hl := lv_entry ([.ref h0, .int 0]) (n := 3) (Nat.le_of_ble_eq_true rfl)
  rw [lg_entry_eq]
  generalize (lg_sl ([.ref h0, .int 0]) ++ List.replicate (3 - (lg_sl ([.ref h0, .int 0])).length) Slot.unset).toArray = ls at hl ⊢
  have hl : lv_has ls 3 [(0, .ref h0), (1, .int 0)] := hl
  refine lv_iload_n hx hb dX3_arranged_0 rfl (lv_at hl 1 rfl) ?_
  refine lv_aload_n hx hb dX3_arranged_1 rfl (lv_at hl 0 rfl) ?_
  refine va_get (D := D) (ci := 3) (v := .ref h1) (C := RX3) (T := TX3) (N := 6) hx hb hts iw_k_X3_arranged_X3 hown hK hP 0 rfl rfl 1 (by decide) (hts (.fieldLink RX3 26 "TopTurned$Rules" "space" "LTopTurned$Space;") (by decide +kernel)) (fun _ h9 => h9) rfl dX3_arranged_2 ?_
  refine va_get (D := D) (ci := 5) (v := .int 1) (C := RX5) (T := TX5) (N := 11) hx hb hts iw_k_X3_arranged_X5 hown hK hP 1 rfl rfl 2 (by decide) (hts (.fieldLink RX3 94 "TopTurned$Space" "sides" "I") (by decide +kernel)) (fun _ h9 => h9) rfl dX3_arranged_5 ?_
  refine lv_iconst (v := 1) hx hb dX3_arranged_8 (by decide) ?_
  refine lv_isub hx hb dX3_arranged_9 ?_
  refine kt_eq (y := 0) (by decide +kernel) ?_
  refine lv_iand hx hb dX3_arranged_10 ?_
  refine kt_eq (y := 0) (by decide +kernel) ?_
  refine lv_if_ne (tgt := 18) hx hb dX3_arranged_11 (by decide) (fun c => absurd (by decide) c) (fun _ => ?_)
  refine lv_iconst (v := 1) hx hb dX3_arranged_14 (by decide) ?_
  refine lv_goto (tgt := 19) hx hb dX3_arranged_15 (by decide) ?_
  refine lv_istore_n (lv' := [(2, .int 1), (0, .ref h0), (1, .int 0)]) hx hb dX3_arranged_19 rfl hl (by decide) rfl (fun ls hl => ?_)
  refine lv_aload_n hx hb dX3_arranged_20 rfl (lv_at hl 1 rfl) ?_
  refine va_get (D := D) (ci := 3) (v := .ref h2) (C := RX3) (T := TX3) (N := 6) hx hb hts iw_k_X3_arranged_X3 hown hK hP 0 rfl rfl 3 (by decide) (hts (.fieldLink RX3 15 "TopTurned$Rules" "sorted" "[Z") (by decide +kernel)) (fun _ h9 => h9) rfl dX3_arranged_21 ?_
  refine lv_iload_n hx hb dX3_arranged_24 rfl (lv_at hl 2 rfl) ?_
  refine lv_aload_n hx hb dX3_arranged_25 rfl (lv_at hl 1 rfl) ?_
  refine va_get (D := D) (ci := 3) (v := .ref h1) (C := RX3) (T := TX3) (N := 6) hx hb hts iw_k_X3_arranged_X3 hown hK hP 0 rfl rfl 1 (by decide) (hts (.fieldLink RX3 26 "TopTurned$Rules" "space" "LTopTurned$Space;") (by decide +kernel)) (fun _ h9 => h9) rfl dX3_arranged_26 ?_
  refine va_get (D := D) (ci := 5) (v := .int 0) (C := RX5) (T := TX5) (N := 11) hx hb hts iw_k_X3_arranged_X5 hown hK hP 1 rfl rfl 0 (by decide) (hts (.fieldLink RX3 67 "TopTurned$Space" "plates" "I") (by decide +kernel)) (fun _ h9 => h9) rfl dX3_arranged_29 ?_
  refine lv_ishr hx hb dX3_arranged_32 ?_
  refine kt_eq (y := 0) (by decide +kernel) ?_
  refine va_zald (i := 0) hx hb hK hP 2 2 rfl rfl (vp_in_iff.mpr (by decide)) dX3_arranged_33 ?_
  refine kt_eq (y := 1) (by decide +kernel) ?_
  refine lv_if_eq (tgt := 55) hx hb dX3_arranged_34 (by decide) (fun c => absurd c (by decide)) (fun _ => ?_)
  refine lv_iload_n hx hb dX3_arranged_37 rfl (lv_at hl 0 rfl) ?_
  refine lv_if_ne (tgt := 51) hx hb dX3_arranged_38 (by decide) (fun _ => ?_) (fun c => absurd c (by decide))
  refine lv_iconst (v := 1) hx hb dX3_arranged_51 (by decide) ?_
  refine lv_goto (tgt := 56) hx hb dX3_arranged_52 (by decide) ?_
  exact W.zret (v := 1) hx hb hr rfl (fun t ht hW => ⟨⟨1, (), rfl, rfl, trivial⟩, hS.F ht⟩) hS.2.2 dX3_arranged_56
def sw_k_X9_inOrder : List Cond := .code yX9_inOrder cX9_inOrder 1 (some .int) :: (([.fieldLink RX9 47 "TopTurned" "rules" "LTopTurned$Rules;", .methodLink RX9 149 yX9_heapState, .instanceMethod yX9_heapState, .selects RX9 yX9_heapState yX9_heapState, .initialized RX9, .methodLink RX9 152 yX3_arranged, .instanceMethod yX3_arranged, .selects RX3 yX3_arranged yX3_arranged, .initialized RX3] : List Cond) ++ (wsX90 ++ (sw_k_X9_heapState ++ (sw_k_X3_arranged ++ (([] : List Cond))))))
theorem gd_k_X9_inOrder : ∀ w ∈ sw_k_X9_inOrder, (w.onTables && w.keeps) = true ∨ ∃ ty, w = .arrayClass ty := List.forall_mem_cons.mpr ⟨good_of_word rfl, List.forall_mem_append.mpr ⟨fun w h => good_of_word (List.all_eq_true.mp (by decide +kernel : (([.fieldLink RX9 47 "TopTurned" "rules" "LTopTurned$Rules;", .methodLink RX9 149 yX9_heapState, .instanceMethod yX9_heapState, .selects RX9 yX9_heapState yX9_heapState, .initialized RX9, .methodLink RX9 152 yX3_arranged, .instanceMethod yX3_arranged, .selects RX3 yX3_arranged yX3_arranged, .initialized RX3] : List Cond)).all goodWord = true) w h), List.forall_mem_append.mpr ⟨gw_X9, List.forall_mem_append.mpr ⟨gd_k_X9_heapState, List.forall_mem_append.mpr ⟨gd_k_X3_arranged, fun _ h => absurd h List.not_mem_nil⟩⟩⟩⟩⟩
theorem iw_k_X9_inOrder_X9 : ∀ w ∈ wsX90, w ∈ sw_k_X9_inOrder := fun _ h => List.mem_cons_of_mem _ (List.mem_append_right _ (List.mem_append_left _ h))
theorem gc_k_X9_inOrder_k_X9_heapState : GoodIn sw_k_X9_inOrder sw_k_X9_heapState := fun w h => ⟨List.mem_cons_of_mem _ (List.mem_append_right _ (List.mem_append_right _ (List.mem_append_left _ h))), gd_k_X9_heapState w h⟩
theorem gc_k_X9_inOrder_k_X3_arranged : GoodIn sw_k_X9_inOrder sw_k_X3_arranged := fun w h => ⟨List.mem_cons_of_mem _ (List.mem_append_right _ (List.mem_append_right _ (List.mem_append_right _ (List.mem_append_left _ h)))), gd_k_X3_arranged w h⟩
set_option maxHeartbeats 4000000 in
set_option maxRecDepth 100000 in
theorem k_X9_inOrder (l : Launch) (D : va_G) (cC cI cZ : ClassId) (h0 h1 h2 h3 h4 h5 h6 h7 h8 h9 h10 h11 h12 h13 h14 h15 h16 h17 h18 h19 h20 h21 h22 h23 h24 h25 h26 : Nat) (sz : Nat) : Met l yX9_inOrder sw_k_X9_inOrder ({ frames := 8, cells := 0, slots := 0, locals := 400 }) (va_Pc [.ref h0] (kPre D cC cI cZ [(h0, .inr (9, [.ref h1, .ref h5, .ref h6, .int 0, .ref h7, .ref h2, .ref h3, .ref h8, .ref h9, .ref h10, .ref h11, .ref h12])), (h1, .inr (6, [.int 0, .ref h13, .ref h14, .int 0, .int 5, .int 9, .int 0, .int 1, .int 0, .int 0, .ref h15, .ref h16, .int 0, .ref h17, .int 0, .ref h18, .int 0])), (h2, .inr (5, [.int 0, .int 1, .int 1, .int 1, .int 0, .ref h19, .ref h20, .ref h21, .ref h22, .ref h23, .ref h24])), (h3, .inr (3, [.ref h1, .ref h2, .ref h25, .ref h4, .ref h26, .int 0])), (h4, .inl (cZ, 120, .inl (upd (fun _ => 0) (Int32.toNatClampNeg 0) (vp_nar .boolean 1))))] sz)) (va_Qi (fun (r : Int32) (_ : Unit) => r = 1) (fun _ _ => True) (fun _ => False)) 0 0 (fun _ => False) := by
  refine Met.ofW (cc := cX9_inOrder) (maxL := 1) (ret := (some .int)) (by decide) rfl ?_
  intro p e s m args below meth c s₁ B hml hv
  obtain ⟨rfl, hsz, hP, hK, hD0⟩ := hv
  have hx := B.exec
  have hb := B.bytes
  have hr := B.returns
  have hts := atoms_spec (ws := sw_k_X9_inOrder) B.pre
  have hown : s.vm.findClass RX9 = some m.cls := findClass_of_methodNamed B.named
  have hlocks := B.notSynchronized
  subst hsz
  have hD := hD0
  have hS : va_S (fun _ => False) s.heap s.heap [] := va_S.rf
  have hl := lv_entry ([.ref h0]) (n := 1) (Nat.le_of_ble_eq_true rfl)
  rw [lg_entry_eq]
  generalize (lg_sl ([.ref h0]) ++ List.replicate (1 - (lg_sl ([.ref h0])).length) Slot.unset).toArray = ls at hl ⊢
  have hl : lv_has ls 1 [(0, .ref h0)] := hl
  refine lv_aload_n hx hb dX9_inOrder_0 rfl (lv_at hl 0 rfl) ?_
  refine va_get (D := D) (ci := 9) (v := .ref h3) (C := RX9) (T := TX9) (N := 12) hx hb hts iw_k_X9_inOrder_X9 hown hK hP 0 rfl rfl 6 (by decide) (hts (.fieldLink RX9 47 "TopTurned" "rules" "LTopTurned$Rules;") (by decide +kernel)) (fun _ h9 => h9) rfl dX9_inOrder_1 ?_
  refine lv_aload_n hx hb dX9_inOrder_4 rfl (lv_at hl 0 rfl) ?_
  have hPc := hP.sub (ws' := [(h0, .inr (9, [.ref h1, .ref h5, .ref h6, .int 0, .ref h7, .ref h2, .ref h3, .ref h8, .ref h9, .ref h10, .ref h11, .ref h12])), (h1, .inr (6, [.int 0, .ref h13, .ref h14, .int 0, .int 5, .int 9, .int 0, .int 1, .int 0, .int 0, .ref h15, .ref h16, .int 0, .ref h17, .int 0, .ref h18, .int 0])), (h2, .inr (5, [.int 0, .int 1, .int 1, .int 1, .int 0, .ref h19, .ref h20, .ref h21, .ref h22, .ref h23, .ref h24]))]) [0, 1, 2] rfl
  have hDc := hD.sub (ws' := [(h0, .inr (9, [.ref h1, .ref h5, .ref h6, .int 0, .ref h7, .ref h2, .ref h3, .ref h8, .ref h9, .ref h10, .ref h11, .ref h12])), (h1, .inr (6, [.int 0, .ref h13, .ref h14, .int 0, .int 5, .int 9, .int 0, .int 1, .int 0, .int 0, .ref h15, .ref h16, .int 0, .ref h17, .int 0, .ref h18, .int 0])), (h2, .inr (5, [.int 0, .int 1, .int 1, .int 1, .int 0, .ref h19, .ref h20, .ref h21, .ref h22, .ref h23, .ref h24]))]) [0, 1, 2] (by decide) rfl
  refine va_calli (va_runV (As := []) (rest := [.ref h3]) ⟨hx, hb, hml, hown, hts⟩ (k_X9_heapState l D cC cI cZ h0 h1 h2 h5 h6 h7 h3 h8 h9 h10 h11 h12 h13 h14 h15 h16 h17 h18 h19 h20 h21 h22 h23 h24 s.heap.size ) (cwV (C := RX9) 0 hts (goodIn_app (goodIn_of _ (by decide +kernel)) gc_k_X9_inOrder_k_X9_heapState) rfl rfl rfl (by decide +kernel) ⟨(Nat.le_of_ble_eq_true rfl), (Nat.le_of_ble_eq_true rfl)⟩) (kPreV hK hPc hDc (va_recv hK hPc (ci := 9) (q0 := 0) rfl rfl)) rfl rfl hl.1 rfl (lv_room (Nat.le_of_ble_eq_true rfl)) dX9_inOrder_5 ⟨(Nat.le_of_ble_eq_true rfl), (Nat.le_of_ble_eq_true rfl)⟩) hS (fun q _ h => False.elim h) (fun q h => False.elim h) (fun r1 u t H1 locs ht hvm hw hB hz1 hk1 hS => ?_)
  have hP := hP.kept (H1 := H1) (fun k q hk => hk1 q.1 (hP k q hk).lt (fun h => h))
  generalize H1 = H at hP hS ⊢
  have hw : r1 = 0 := hw
  subst hw
  have hPc := hP.sub (ws' := [(h3, .inr (3, [.ref h1, .ref h2, .ref h25, .ref h4, .ref h26, .int 0])), (h2, .inr (5, [.int 0, .int 1, .int 1, .int 1, .int 0, .ref h19, .ref h20, .ref h21, .ref h22, .ref h23, .ref h24])), (h4, .inl (cZ, 120, .inl (upd (fun _ => 0) (Int32.toNatClampNeg 0) (vp_nar .boolean 1))))]) [3, 2, 4] rfl
  have hDc := hD.sub (ws' := [(h3, .inr (3, [.ref h1, .ref h2, .ref h25, .ref h4, .ref h26, .int 0])), (h2, .inr (5, [.int 0, .int 1, .int 1, .int 1, .int 0, .ref h19, .ref h20, .ref h21, .ref h22, .ref h23, .ref h24])), (h4, .inl (cZ, 120, .inl (upd (fun _ => 0) (Int32.toNatClampNeg 0) (vp_nar .boolean 1))))]) [3, 2, 4] (by decide) rfl
  refine va_calli (va_runV (As := [.int 0]) (rest := []) ⟨hx, hb, hml, hown, hts⟩ (k_X3_arranged l D cC cI cZ h3 h2 h4 h1 h25 h26 h19 h20 h21 h22 h23 h24 H.size ) (cwV (C := RX3) 1 hts (goodIn_app (goodIn_of _ (by decide +kernel)) gc_k_X9_inOrder_k_X3_arranged) rfl rfl rfl (by decide +kernel) ⟨(Nat.le_of_ble_eq_true rfl), (Nat.le_of_ble_eq_true rfl)⟩) (kPreV hK hPc hDc (va_recv hK hPc (ci := 3) (q0 := 0) rfl rfl)) rfl rfl hl.1 rfl (lv_room (Nat.le_of_ble_eq_true rfl)) dX9_inOrder_8 ⟨(Nat.le_of_ble_eq_true rfl), (Nat.le_of_ble_eq_true rfl)⟩) hS (fun q _ h => False.elim h) (fun q h => False.elim h) (fun r2 u t H1 locs ht hvm hw hB hz1 hk1 hS => ?_)
  have hP := hP.kept (H1 := H1) (fun k q hk => hk1 q.1 (hP k q hk).lt (fun h => h))
  generalize H1 = H at hP hS ⊢
  have hw : r2 = 1 := hw
  subst hw
  refine lv_if_eq (tgt := 18) hx hb dX9_inOrder_11 (by decide) (fun c => absurd c (by decide)) (fun _ => ?_)
  refine lv_iconst (v := 1) hx hb dX9_inOrder_14 (by decide) ?_
  refine lv_goto (tgt := 19) hx hb dX9_inOrder_15 (by decide) ?_
  exact W.iret (v := 1) hx hb hr (fun t ht hW => ⟨⟨1, (), rfl, rfl, trivial⟩, hS.F ht⟩) hS.2.2 dX9_inOrder_19
def sw_k_X3_gapsOf : List Cond := .code yX3_gapsOf cX3_gapsOf 4 (some .int) :: (([.fieldLink RX3 26 "TopTurned$Rules" "space" "LTopTurned$Space;", .fieldLink RX3 67 "TopTurned$Space" "plates" "I"] : List Cond) ++ (wsX30 ++ (wsX50 ++ (([] : List Cond)))))
theorem gd_k_X3_gapsOf : ∀ w ∈ sw_k_X3_gapsOf, (w.onTables && w.keeps) = true ∨ ∃ ty, w = .arrayClass ty := List.forall_mem_cons.mpr ⟨good_of_word rfl, List.forall_mem_append.mpr ⟨fun w h => good_of_word (List.all_eq_true.mp (by decide +kernel : (([.fieldLink RX3 26 "TopTurned$Rules" "space" "LTopTurned$Space;", .fieldLink RX3 67 "TopTurned$Space" "plates" "I"] : List Cond)).all goodWord = true) w h), List.forall_mem_append.mpr ⟨gw_X3, List.forall_mem_append.mpr ⟨gw_X5, fun _ h => absurd h List.not_mem_nil⟩⟩⟩⟩
theorem iw_k_X3_gapsOf_X3 : ∀ w ∈ wsX30, w ∈ sw_k_X3_gapsOf := fun _ h => List.mem_cons_of_mem _ (List.mem_append_right _ (List.mem_append_left _ h))
theorem iw_k_X3_gapsOf_X5 : ∀ w ∈ wsX50, w ∈ sw_k_X3_gapsOf := fun _ h => List.mem_cons_of_mem _ (List.mem_append_right _ (List.mem_append_right _ (List.mem_append_left _ h)))
set_option maxHeartbeats 4000000 in
set_option maxRecDepth 100000 in
theorem k_X3_gapsOf (l : Launch) (D : va_G) (cC cI cZ : ClassId) (h0 h1 h2 h3 h4 h5 h6 h7 h8 h9 h10 h11 : Nat) (sz : Nat) : Met l yX3_gapsOf sw_k_X3_gapsOf ({ frames := 2, cells := 0, slots := 0, locals := 100 }) (va_Pc [.ref h0, .int 0] (kPre D cC cI cZ [(h0, .inr (3, [.ref h2, .ref h1, .ref h3, .ref h4, .ref h5, .int 0])), (h1, .inr (5, [.int 0, .int 1, .int 1, .int 1, .int 0, .ref h6, .ref h7, .ref h8, .ref h9, .ref h10, .ref h11]))] sz)) (va_Qi (fun (r : Int32) (_ : Unit) => r = 0) (fun _ _ => True) (fun _ => False)) 0 0 (fun _ => False) := by
  refine Met.ofW (cc := cX3_gapsOf) (maxL := 4) (ret := (some .int)) (by decide) rfl ?_
  intro p e s m args below meth c s₁ B hml hv
  obtain ⟨rfl, hsz, hP, hK, hD0⟩ := hv
  have hx := B.exec
  have hb := B.bytes
  have hr := B.returns
  have hts := atoms_spec (ws := sw_k_X3_gapsOf) B.pre
  have hown : s.vm.findClass RX3 = some m.cls := findClass_of_methodNamed B.named
  have hlocks := B.notSynchronized
  subst hsz
  have hD := hD0
  have hS : va_S (fun _ => False) s.heap s.heap [] := va_S.rf
  have hl := lv_entry ([.ref h0, .int 0]) (n := 4) (Nat.le_of_ble_eq_true rfl)
  rw [lg_entry_eq]
  generalize (lg_sl ([.ref h0, .int 0]) ++ List.replicate (4 - (lg_sl ([.ref h0, .int 0])).length) Slot.unset).toArray = ls at hl ⊢
  have hl : lv_has ls 4 [(0, .ref h0), (1, .int 0)] := hl
  refine lv_iconst (v := 0) hx hb dX3_gapsOf_0 (by decide) ?_
  refine lv_istore_n (lv' := [(2, .int 0), (0, .ref h0), (1, .int 0)]) hx hb dX3_gapsOf_1 rfl hl (by decide) rfl (fun ls hl => ?_)
  refine lv_iconst (v := 0) hx hb dX3_gapsOf_2 (by decide) ?_
  refine lv_istore_n (lv' := [(3, .int 0), (2, .int 0), (0, .ref h0), (1, .int 0)]) hx hb dX3_gapsOf_3 rfl hl (by decide) rfl (fun ls hl => ?_)
  refine lv_iload_n hx hb dX3_gapsOf_4 rfl (lv_at hl 0 rfl) ?_
  refine lv_aload_n hx hb dX3_gapsOf_5 rfl (lv_at hl 2 rfl) ?_
  refine va_get (D := D) (ci := 3) (v := .ref h1) (C := RX3) (T := TX3) (N := 6) hx hb hts iw_k_X3_gapsOf_X3 hown hK hP 0 rfl rfl 1 (by decide) (hts (.fieldLink RX3 26 "TopTurned$Rules" "space" "LTopTurned$Space;") (by decide +kernel)) (fun _ h9 => h9) rfl dX3_gapsOf_6 ?_
  refine va_get (D := D) (ci := 5) (v := .int 0) (C := RX5) (T := TX5) (N := 11) hx hb hts iw_k_X3_gapsOf_X5 hown hK hP 1 rfl rfl 0 (by decide) (hts (.fieldLink RX3 67 "TopTurned$Space" "plates" "I") (by decide +kernel)) (fun _ h9 => h9) rfl dX3_gapsOf_9 ?_
  refine lv_icmp_ge (tgt := 33) hx hb dX3_gapsOf_12 (by decide) (fun _ => ?_) (fun c => absurd (by decide) c)
  refine lv_iload_n hx hb dX3_gapsOf_33 rfl (lv_at hl 1 rfl) ?_
  exact W.iret (v := 0) hx hb hr (fun t ht hW => ⟨⟨0, (), rfl, rfl, trivial⟩, hS.F ht⟩) hS.2.2 dX3_gapsOf_34
def sw_k_X9_gaps : List Cond := .code yX9_gaps cX9_gaps 1 (some .int) :: (([.fieldLink RX9 47 "TopTurned" "rules" "LTopTurned$Rules;", .methodLink RX9 149 yX9_heapState, .instanceMethod yX9_heapState, .selects RX9 yX9_heapState yX9_heapState, .initialized RX9, .methodLink RX9 156 yX3_gapsOf, .instanceMethod yX3_gapsOf, .selects RX3 yX3_gapsOf yX3_gapsOf, .initialized RX3] : List Cond) ++ (wsX90 ++ (sw_k_X9_heapState ++ (sw_k_X3_gapsOf ++ (([] : List Cond))))))
theorem gd_k_X9_gaps : ∀ w ∈ sw_k_X9_gaps, (w.onTables && w.keeps) = true ∨ ∃ ty, w = .arrayClass ty := List.forall_mem_cons.mpr ⟨good_of_word rfl, List.forall_mem_append.mpr ⟨fun w h => good_of_word (List.all_eq_true.mp (by decide +kernel : (([.fieldLink RX9 47 "TopTurned" "rules" "LTopTurned$Rules;", .methodLink RX9 149 yX9_heapState, .instanceMethod yX9_heapState, .selects RX9 yX9_heapState yX9_heapState, .initialized RX9, .methodLink RX9 156 yX3_gapsOf, .instanceMethod yX3_gapsOf, .selects RX3 yX3_gapsOf yX3_gapsOf, .initialized RX3] : List Cond)).all goodWord = true) w h), List.forall_mem_append.mpr ⟨gw_X9, List.forall_mem_append.mpr ⟨gd_k_X9_heapState, List.forall_mem_append.mpr ⟨gd_k_X3_gapsOf, fun _ h => absurd h List.not_mem_nil⟩⟩⟩⟩⟩
theorem iw_k_X9_gaps_X9 : ∀ w ∈ wsX90, w ∈ sw_k_X9_gaps := fun _ h => List.mem_cons_of_mem _ (List.mem_append_right _ (List.mem_append_left _ h))
theorem gc_k_X9_gaps_k_X9_heapState : GoodIn sw_k_X9_gaps sw_k_X9_heapState := fun w h => ⟨List.mem_cons_of_mem _ (List.mem_append_right _ (List.mem_append_right _ (List.mem_append_left _ h))), gd_k_X9_heapState w h⟩
theorem gc_k_X9_gaps_k_X3_gapsOf : GoodIn sw_k_X9_gaps sw_k_X3_gapsOf := fun w h => ⟨List.mem_cons_of_mem _ (List.mem_append_right _ (List.mem_append_right _ (List.mem_append_right _ (List.mem_append_left _ h)))), gd_k_X3_gapsOf w h⟩
set_option maxHeartbeats 4000000 in
set_option maxRecDepth 100000 in
theorem k_X9_gaps (l : Launch) (D : va_G) (cC cI cZ : ClassId) (h0 h1 h2 h3 h4 h5 h6 h7 h8 h9 h10 h11 h12 h13 h14 h15 h16 h17 h18 h19 h20 h21 h22 h23 h24 h25 h26 : Nat) (sz : Nat) : Met l yX9_gaps sw_k_X9_gaps ({ frames := 8, cells := 0, slots := 0, locals := 400 }) (va_Pc [.ref h0] (kPre D cC cI cZ [(h0, .inr (9, [.ref h1, .ref h4, .ref h5, .int 0, .ref h6, .ref h2, .ref h3, .ref h7, .ref h8, .ref h9, .ref h10, .ref h11])), (h1, .inr (6, [.int 0, .ref h12, .ref h13, .int 0, .int 5, .int 9, .int 0, .int 1, .int 0, .int 0, .ref h14, .ref h15, .int 0, .ref h16, .int 0, .ref h17, .int 0])), (h2, .inr (5, [.int 0, .int 1, .int 1, .int 1, .int 0, .ref h18, .ref h19, .ref h20, .ref h21, .ref h22, .ref h23])), (h3, .inr (3, [.ref h1, .ref h2, .ref h24, .ref h25, .ref h26, .int 0]))] sz)) (va_Qi (fun (r : Int32) (_ : Unit) => r = 0) (fun _ _ => True) (fun _ => False)) 0 0 (fun _ => False) := by
  refine Met.ofW (cc := cX9_gaps) (maxL := 1) (ret := (some .int)) (by decide) rfl ?_
  intro p e s m args below meth c s₁ B hml hv
  obtain ⟨rfl, hsz, hP, hK, hD0⟩ := hv
  have hx := B.exec
  have hb := B.bytes
  have hr := B.returns
  have hts := atoms_spec (ws := sw_k_X9_gaps) B.pre
  have hown : s.vm.findClass RX9 = some m.cls := findClass_of_methodNamed B.named
  have hlocks := B.notSynchronized
  subst hsz
  have hD := hD0
  have hS : va_S (fun _ => False) s.heap s.heap [] := va_S.rf
  have hl := lv_entry ([.ref h0]) (n := 1) (Nat.le_of_ble_eq_true rfl)
  rw [lg_entry_eq]
  generalize (lg_sl ([.ref h0]) ++ List.replicate (1 - (lg_sl ([.ref h0])).length) Slot.unset).toArray = ls at hl ⊢
  have hl : lv_has ls 1 [(0, .ref h0)] := hl
  refine lv_aload_n hx hb dX9_gaps_0 rfl (lv_at hl 0 rfl) ?_
  refine va_get (D := D) (ci := 9) (v := .ref h3) (C := RX9) (T := TX9) (N := 12) hx hb hts iw_k_X9_gaps_X9 hown hK hP 0 rfl rfl 6 (by decide) (hts (.fieldLink RX9 47 "TopTurned" "rules" "LTopTurned$Rules;") (by decide +kernel)) (fun _ h9 => h9) rfl dX9_gaps_1 ?_
  refine lv_aload_n hx hb dX9_gaps_4 rfl (lv_at hl 0 rfl) ?_
  have hPc := hP.sub (ws' := [(h0, .inr (9, [.ref h1, .ref h4, .ref h5, .int 0, .ref h6, .ref h2, .ref h3, .ref h7, .ref h8, .ref h9, .ref h10, .ref h11])), (h1, .inr (6, [.int 0, .ref h12, .ref h13, .int 0, .int 5, .int 9, .int 0, .int 1, .int 0, .int 0, .ref h14, .ref h15, .int 0, .ref h16, .int 0, .ref h17, .int 0])), (h2, .inr (5, [.int 0, .int 1, .int 1, .int 1, .int 0, .ref h18, .ref h19, .ref h20, .ref h21, .ref h22, .ref h23]))]) [0, 1, 2] rfl
  have hDc := hD.sub (ws' := [(h0, .inr (9, [.ref h1, .ref h4, .ref h5, .int 0, .ref h6, .ref h2, .ref h3, .ref h7, .ref h8, .ref h9, .ref h10, .ref h11])), (h1, .inr (6, [.int 0, .ref h12, .ref h13, .int 0, .int 5, .int 9, .int 0, .int 1, .int 0, .int 0, .ref h14, .ref h15, .int 0, .ref h16, .int 0, .ref h17, .int 0])), (h2, .inr (5, [.int 0, .int 1, .int 1, .int 1, .int 0, .ref h18, .ref h19, .ref h20, .ref h21, .ref h22, .ref h23]))]) [0, 1, 2] (by decide) rfl
  refine va_calli (va_runV (As := []) (rest := [.ref h3]) ⟨hx, hb, hml, hown, hts⟩ (k_X9_heapState l D cC cI cZ h0 h1 h2 h4 h5 h6 h3 h7 h8 h9 h10 h11 h12 h13 h14 h15 h16 h17 h18 h19 h20 h21 h22 h23 s.heap.size ) (cwV (C := RX9) 0 hts (goodIn_app (goodIn_of _ (by decide +kernel)) gc_k_X9_gaps_k_X9_heapState) rfl rfl rfl (by decide +kernel) ⟨(Nat.le_of_ble_eq_true rfl), (Nat.le_of_ble_eq_true rfl)⟩) (kPreV hK hPc hDc (va_recv hK hPc (ci := 9) (q0 := 0) rfl rfl)) rfl rfl hl.1 rfl (lv_room (Nat.le_of_ble_eq_true rfl)) dX9_gaps_5 ⟨(Nat.le_of_ble_eq_true rfl), (Nat.le_of_ble_eq_true rfl)⟩) hS (fun q _ h => False.elim h) (fun q h => False.elim h) (fun r1 u t H1 locs ht hvm hw hB hz1 hk1 hS => ?_)
  have hP := hP.kept (H1 := H1) (fun k q hk => hk1 q.1 (hP k q hk).lt (fun h => h))
  generalize H1 = H at hP hS ⊢
  have hw : r1 = 0 := hw
  subst hw
  have hPc := hP.sub (ws' := [(h3, .inr (3, [.ref h1, .ref h2, .ref h24, .ref h25, .ref h26, .int 0])), (h2, .inr (5, [.int 0, .int 1, .int 1, .int 1, .int 0, .ref h18, .ref h19, .ref h20, .ref h21, .ref h22, .ref h23]))]) [3, 2] rfl
  have hDc := hD.sub (ws' := [(h3, .inr (3, [.ref h1, .ref h2, .ref h24, .ref h25, .ref h26, .int 0])), (h2, .inr (5, [.int 0, .int 1, .int 1, .int 1, .int 0, .ref h18, .ref h19, .ref h20, .ref h21, .ref h22, .ref h23]))]) [3, 2] (by decide) rfl
  refine va_calli (va_runV (As := [.int 0]) (rest := []) ⟨hx, hb, hml, hown, hts⟩ (k_X3_gapsOf l D cC cI cZ h3 h2 h1 h24 h25 h26 h18 h19 h20 h21 h22 h23 H.size ) (cwV (C := RX3) 1 hts (goodIn_app (goodIn_of _ (by decide +kernel)) gc_k_X9_gaps_k_X3_gapsOf) rfl rfl rfl (by decide +kernel) ⟨(Nat.le_of_ble_eq_true rfl), (Nat.le_of_ble_eq_true rfl)⟩) (kPreV hK hPc hDc (va_recv hK hPc (ci := 3) (q0 := 0) rfl rfl)) rfl rfl hl.1 rfl (lv_room (Nat.le_of_ble_eq_true rfl)) dX9_gaps_8 ⟨(Nat.le_of_ble_eq_true rfl), (Nat.le_of_ble_eq_true rfl)⟩) hS (fun q _ h => False.elim h) (fun q h => False.elim h) (fun r2 u t H1 locs ht hvm hw hB hz1 hk1 hS => ?_)
  have hP := hP.kept (H1 := H1) (fun k q hk => hk1 q.1 (hP k q hk).lt (fun h => h))
  generalize H1 = H at hP hS ⊢
  have hw : r2 = 0 := hw
  subst hw
  exact W.iret (v := 0) hx hb hr (fun t ht hW => ⟨⟨0, (), rfl, rfl, trivial⟩, hS.F ht⟩) hS.2.2 dX9_gaps_11
def sw_k_X5_orderIn : List Cond := .code yX5_orderIn cX5_orderIn 2 (some .int) :: (([.fieldLink RX5 40 "TopTurned$Space" "plates" "I"] : List Cond) ++ (wsX50 ++ (([] : List Cond))))
theorem gd_k_X5_orderIn : ∀ w ∈ sw_k_X5_orderIn, (w.onTables && w.keeps) = true ∨ ∃ ty, w = .arrayClass ty := List.forall_mem_cons.mpr ⟨good_of_word rfl, List.forall_mem_append.mpr ⟨fun w h => good_of_word (List.all_eq_true.mp (by decide +kernel : (([.fieldLink RX5 40 "TopTurned$Space" "plates" "I"] : List Cond)).all goodWord = true) w h), List.forall_mem_append.mpr ⟨gw_X5, fun _ h => absurd h List.not_mem_nil⟩⟩⟩
theorem iw_k_X5_orderIn_X5 : ∀ w ∈ wsX50, w ∈ sw_k_X5_orderIn := fun _ h => List.mem_cons_of_mem _ (List.mem_append_right _ (List.mem_append_left _ h))
set_option maxHeartbeats 4000000 in
set_option maxRecDepth 100000 in
theorem k_X5_orderIn (l : Launch) (D : va_G) (cC cI cZ : ClassId) (h0 h1 h2 h3 h4 h5 h6 : Nat) (sz : Nat) : Met l yX5_orderIn sw_k_X5_orderIn ({ frames := 2, cells := 0, slots := 0, locals := 100 }) (va_Pc [.ref h0, .int 0] (kPre D cC cI cZ [(h0, .inr (5, [.int 0, .int 1, .int 1, .int 1, .int 0, .ref h1, .ref h2, .ref h3, .ref h4, .ref h5, .ref h6]))] sz)) (va_Qi (fun (r : Int32) (_ : Unit) => r = 0) (fun _ _ => True) (fun _ => False)) 0 0 (fun _ => False) := by
  refine Met.ofW (cc := cX5_orderIn) (maxL := 2) (ret := (some .int)) (by decide) rfl ?_
  intro p e s m args below meth c s₁ B hml hv
  obtain ⟨rfl, hsz, hP, hK, hD0⟩ := hv
  have hx := B.exec
  have hb := B.bytes
  have hr := B.returns
  have hts := atoms_spec (ws := sw_k_X5_orderIn) B.pre
  have hown : s.vm.findClass RX5 = some m.cls := findClass_of_methodNamed B.named
  have hlocks := B.notSynchronized
  subst hsz
  have hD := hD0
  have hS : va_S (fun _ => False) s.heap s.heap [] := va_S.rf
  have hl := lv_entry ([.ref h0, .int 0]) (n := 2) (Nat.le_of_ble_eq_true rfl)
  rw [lg_entry_eq]
  generalize (lg_sl ([.ref h0, .int 0]) ++ List.replicate (2 - (lg_sl ([.ref h0, .int 0])).length) Slot.unset).toArray = ls at hl ⊢
  have hl : lv_has ls 2 [(0, .ref h0), (1, .int 0)] := hl
  refine lv_iload_n hx hb dX5_orderIn_0 rfl (lv_at hl 1 rfl) ?_
  refine lv_aload_n hx hb dX5_orderIn_1 rfl (lv_at hl 0 rfl) ?_
  refine va_get (D := D) (ci := 5) (v := .int 0) (C := RX5) (T := TX5) (N := 11) hx hb hts iw_k_X5_orderIn_X5 hown hK hP 0 rfl rfl 0 (by decide) (hts (.fieldLink RX5 40 "TopTurned$Space" "plates" "I") (by decide +kernel)) (fun _ h9 => h9) rfl dX5_orderIn_2 ?_
  refine lv_ishr hx hb dX5_orderIn_5 ?_
  refine kt_eq (y := 0) (by decide +kernel) ?_
  exact W.iret (v := 0) hx hb hr (fun t ht hW => ⟨⟨0, (), rfl, rfl, trivial⟩, hS.F ht⟩) hS.2.2 dX5_orderIn_6
