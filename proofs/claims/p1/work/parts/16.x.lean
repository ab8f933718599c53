def sw_k_X2_letterAt : List Cond := .code yX2_letterAt cX2_letterAt 2 (some .int) :: (([.fieldLink RX2 9 "TopTurned$Reader" "told" "LTopTurned$Told;", .fieldLink RX2 19 "TopTurned$Told" "letterCount" "I"] : List Cond) ++ (wsX20 ++ (wsX60 ++ (([] : List Cond)))))
theorem gd_k_X2_letterAt : ∀ w ∈ sw_k_X2_letterAt, (w.onTables && w.keeps) = true ∨ ∃ ty, w = .arrayClass ty := List.forall_mem_cons.mpr ⟨good_of_word rfl, List.forall_mem_append.mpr ⟨fun w h => good_of_word (List.all_eq_true.mp (by decide +kernel : (([.fieldLink RX2 9 "TopTurned$Reader" "told" "LTopTurned$Told;", .fieldLink RX2 19 "TopTurned$Told" "letterCount" "I"] : List Cond)).all goodWord = true) w h), List.forall_mem_append.mpr ⟨gw_X2, List.forall_mem_append.mpr ⟨gw_X6, fun _ h => absurd h List.not_mem_nil⟩⟩⟩⟩
theorem iw_k_X2_letterAt_X2 : ∀ w ∈ wsX20, w ∈ sw_k_X2_letterAt := fun _ h => List.mem_cons_of_mem _ (List.mem_append_right _ (List.mem_append_left _ h))
theorem iw_k_X2_letterAt_X6 : ∀ w ∈ wsX60, w ∈ sw_k_X2_letterAt := fun _ h => List.mem_cons_of_mem _ (List.mem_append_right _ (List.mem_append_right _ (List.mem_append_left _ h)))
set_option maxHeartbeats 4000000 in
set_option maxRecDepth 100000 in
theorem k_X2_letterAt (l : Launch) (D : va_G) (cC cI cZ : ClassId) (h0 h1 h2 h3 h4 h5 h6 h7 : Nat) (sz : Nat) : Met l yX2_letterAt sw_k_X2_letterAt ({ frames := 2, cells := 0, slots := 0, locals := 100 }) (va_Pc [.ref h0, .int 0] (kPre D cC cI cZ [(h0, .inr (2, [.ref h1])), (h1, .inr (6, [.int 0, .ref h2, .ref h3, .int 0, .int 5, .int 9, .int 0, .int 1, .int 0, .int 0, .ref h4, .ref h5, .int 0, .ref h6, .int 0, .ref h7, .int 0]))] sz)) (va_Qi (fun (r : Int32) (_ : Unit) => r = (-1)) (fun _ _ => True) (fun _ => False)) 0 0 (fun _ => False) := by
  refine Met.ofW (cc := cX2_letterAt) (maxL := 2) (ret := (some .int)) (by decide) rfl ?_
  intro p e s m args below meth c s₁ B hml hv
  obtain ⟨rfl, hsz, hP, hK, hD0⟩ := hv
  have hx := B.exec
  have hb := B.bytes
  have hr := B.returns
  have hts := atoms_spec (ws := sw_k_X2_letterAt) B.pre
  have hown : s.vm.findClass RX2 = some m.cls := findClass_of_methodNamed B.named
  have hlocks := B.notSynchronized
  subst hsz
  have hD := hD0
  have hS : va_S (fun _ => False) s.heap s.heap [] := va_S.rf
  have hl := lv_entry ([.ref h0, .int 0]) (n := 2) (Nat.le_of_ble_eq_true rfl)
  rw [lg_entry_eq]
  generalize (lg_sl ([.ref h0, .int 0]) ++ List.replicate (2 - (lg_sl ([.ref h0, .int 0])).length) Slot.unset).toArray = ls at hl ⊢
  have hl : lv_has ls 2 [(0, .ref h0), (1, .int 0)] := hl
  refine lv_iload_n hx hb dX2_letterAt_0 rfl (lv_at hl 1 rfl) ?_
  refine lv_aload_n hx hb dX2_letterAt_1 rfl (lv_at hl 0 rfl) ?_
  refine va_get (D := D) (ci := 2) (v := .ref h1) (C := RX2) (T := TX2) (N := 1) hx hb hts iw_k_X2_letterAt_X2 hown hK hP 0 rfl rfl 0 (by decide) (hts (.fieldLink RX2 9 "TopTurned$Reader" "told" "LTopTurned$Told;") (by decide +kernel)) (fun _ h9 => h9) rfl dX2_letterAt_2 ?_
  refine va_get (D := D) (ci := 6) (v := .int 0) (C := RX6) (T := TX6) (N := 17) hx hb hts iw_k_X2_letterAt_X6 hown hK hP 1 rfl rfl 14 (by decide) (hts (.fieldLink RX2 19 "TopTurned$Told" "letterCount" "I") (by decide +kernel)) (fun _ h9 => h9) rfl dX2_letterAt_5 ?_
  refine lv_icmp_ge (tgt := 23) hx hb dX2_letterAt_8 (by decide) (fun _ => ?_) (fun c => absurd (by decide) c)
  refine lv_iconst (v := (-1)) hx hb dX2_letterAt_23 (by decide) ?_
  exact W.iret (v := (-1)) hx hb hr (fun t ht hW => ⟨⟨(-1), (), rfl, rfl, trivial⟩, hS.F ht⟩) hS.2.2 dX2_letterAt_24
def sw_k_X2_lengthOf : List Cond := .code yX2_lengthOf cX2_lengthOf 1 (some .int) :: (([] : List Cond) ++ (([] : List Cond)))
theorem gd_k_X2_lengthOf : ∀ w ∈ sw_k_X2_lengthOf, (w.onTables && w.keeps) = true ∨ ∃ ty, w = .arrayClass ty := List.forall_mem_cons.mpr ⟨good_of_word rfl, List.forall_mem_append.mpr ⟨fun w h => good_of_word (List.all_eq_true.mp (by decide +kernel : (([] : List Cond)).all goodWord = true) w h), fun _ h => absurd h List.not_mem_nil⟩⟩
set_option maxHeartbeats 4000000 in
set_option maxRecDepth 100000 in
theorem k_X2_lengthOf (l : Launch) (D : va_G) (cC cI cZ : ClassId) (sz : Nat) : Met l yX2_lengthOf sw_k_X2_lengthOf ({ frames := 2, cells := 0, slots := 0, locals := 100 }) (va_Pc [.int (-1)] (kPre D cC cI cZ [] sz)) (va_Qi (fun (r : Int32) (_ : Unit) => r = 0) (fun _ _ => True) (fun _ => False)) 0 0 (fun _ => False) := by
  refine Met.ofW (cc := cX2_lengthOf) (maxL := 1) (ret := (some .int)) (by decide) rfl ?_
  intro p e s m args below meth c s₁ B hml hv
  obtain ⟨rfl, hsz, hP, hK, hD0⟩ := hv
  have hx := B.exec
  have hb := B.bytes
  have hr := B.returns
  have hts := atoms_spec (ws := sw_k_X2_lengthOf) B.pre
  have hown : s.vm.findClass RX2 = some m.cls := findClass_of_methodNamed B.named
  have hlocks := B.notSynchronized
  subst hsz
  have hD := hD0
  have hS : va_S (fun _ => False) s.heap s.heap [] := va_S.rf
  have hl := lv_entry ([.int (-1)]) (n := 1) (Nat.le_of_ble_eq_true rfl)
  rw [lg_entry_eq]
  generalize (lg_sl ([.int (-1)]) ++ List.replicate (1 - (lg_sl ([.int (-1)])).length) Slot.unset).toArray = ls at hl ⊢
  have hl : lv_has ls 1 [(0, .int (-1))] := hl
  refine lv_iload_n hx hb dX2_lengthOf_0 rfl (lv_at hl 0 rfl) ?_
  refine lv_tableOut (tgt := 92) hx hb dX2_lengthOf_1 (by decide) (by decide) ?_
  refine lv_iconst (v := 0) hx hb dX2_lengthOf_92 (by decide) ?_
  exact W.iret (v := 0) hx hb hr (fun t ht hW => ⟨⟨0, (), rfl, rfl, trivial⟩, hS.F ht⟩) hS.2.2 dX2_lengthOf_93
def sw_k_X2_firstMisfit : List Cond := .code yX2_firstMisfit cX2_firstMisfit 4 (some .int) :: (([.methodLink RX2 29 yX2_letterAt, .instanceMethod yX2_letterAt, .selects RX2 yX2_letterAt yX2_letterAt, .initialized RX2, .methodLink RX2 33 yX2_lengthOf, .static yX2_lengthOf] : List Cond) ++ (sw_k_X2_letterAt ++ (sw_k_X2_lengthOf ++ (([] : List Cond)))))
theorem gd_k_X2_firstMisfit : ∀ w ∈ sw_k_X2_firstMisfit, (w.onTables && w.keeps) = true ∨ ∃ ty, w = .arrayClass ty := List.forall_mem_cons.mpr ⟨good_of_word rfl, List.forall_mem_append.mpr ⟨fun w h => good_of_word (List.all_eq_true.mp (by decide +kernel : (([.methodLink RX2 29 yX2_letterAt, .instanceMethod yX2_letterAt, .selects RX2 yX2_letterAt yX2_letterAt, .initialized RX2, .methodLink RX2 33 yX2_lengthOf, .static yX2_lengthOf] : List Cond)).all goodWord = true) w h), List.forall_mem_append.mpr ⟨gd_k_X2_letterAt, List.forall_mem_append.mpr ⟨gd_k_X2_lengthOf, fun _ h => absurd h List.not_mem_nil⟩⟩⟩⟩
theorem gc_k_X2_firstMisfit_k_X2_letterAt : GoodIn sw_k_X2_firstMisfit sw_k_X2_letterAt := fun w h => ⟨List.mem_cons_of_mem _ (List.mem_append_right _ (List.mem_append_left _ h)), gd_k_X2_letterAt w h⟩
theorem gc_k_X2_firstMisfit_k_X2_lengthOf : GoodIn sw_k_X2_firstMisfit sw_k_X2_lengthOf := fun w h => ⟨List.mem_cons_of_mem _ (List.mem_append_right _ (List.mem_append_right _ (List.mem_append_left _ h))), gd_k_X2_lengthOf w h⟩
set_option maxHeartbeats 4000000 in
set_option maxRecDepth 100000 in
theorem k_X2_firstMisfit (l : Launch) (D : va_G) (cC cI cZ : ClassId) (h0 h1 h2 h3 h4 h5 h6 h7 : Nat) (sz : Nat) : Met l yX2_firstMisfit sw_k_X2_firstMisfit ({ frames := 4, cells := 0, slots := 0, locals := 200 }) (va_Pc [.ref h0] (kPre D cC cI cZ [(h0, .inr (2, [.ref h1])), (h1, .inr (6, [.int 0, .ref h2, .ref h3, .int 0, .int 5, .int 9, .int 0, .int 1, .int 0, .int 0, .ref h4, .ref h5, .int 0, .ref h6, .int 0, .ref h7, .int 0]))] sz)) (va_Qi (fun (r : Int32) (_ : Unit) => r = 0) (fun _ _ => True) (fun _ => False)) 0 0 (fun _ => False) := by
  refine Met.ofW (cc := cX2_firstMisfit) (maxL := 4) (ret := (some .int)) (by decide) rfl ?_
  intro p e s m args below meth c s₁ B hml hv
  obtain ⟨rfl, hsz, hP, hK, hD0⟩ := hv
  have hx := B.exec
  have hb := B.bytes
  have hr := B.returns
  have hts := atoms_spec (ws := sw_k_X2_firstMisfit) B.pre
  have hown : s.vm.findClass RX2 = some m.cls := findClass_of_methodNamed B.named
  have hlocks := B.notSynchronized
  subst hsz
  have hD := hD0
  have hS : va_S (fun _ => False) s.heap s.heap [] := va_S.rf
  have hl := lv_entry ([.ref h0]) (n := 4) (Nat.le_of_ble_eq_true rfl)
  rw [lg_entry_eq]
  generalize (lg_sl ([.ref h0]) ++ List.replicate (4 - (lg_sl ([.ref h0])).length) Slot.unset).toArray = ls at hl ⊢
  have hl : lv_has ls 4 [(0, .ref h0)] := hl
  refine lv_iconst (v := 0) hx hb dX2_firstMisfit_0 (by decide) ?_
  refine lv_istore_n (lv' := [(1, .int 0), (0, .ref h0)]) hx hb dX2_firstMisfit_1 rfl hl (by decide) rfl (fun ls hl => ?_)
  refine lv_aload_n hx hb dX2_firstMisfit_2 rfl (lv_at hl 1 rfl) ?_
  refine lv_iload_n hx hb dX2_firstMisfit_3 rfl (lv_at hl 0 rfl) ?_
  have hPc := hP.sub (ws' := [(h0, .inr (2, [.ref h1])), (h1, .inr (6, [.int 0, .ref h2, .ref h3, .int 0, .int 5, .int 9, .int 0, .int 1, .int 0, .int 0, .ref h4, .ref h5, .int 0, .ref h6, .int 0, .ref h7, .int 0]))]) [0, 1] rfl
  have hDc := hD.sub (ws' := [(h0, .inr (2, [.ref h1])), (h1, .inr (6, [.int 0, .ref h2, .ref h3, .int 0, .int 5, .int 9, .int 0, .int 1, .int 0, .int 0, .ref h4, .ref h5, .int 0, .ref h6, .int 0, .ref h7, .int 0]))]) [0, 1] (by decide) rfl
  refine va_calli (va_runV (As := [.int 0]) (rest := []) ⟨hx, hb, hml, hown, hts⟩ (k_X2_letterAt l D cC cI cZ h0 h1 h2 h3 h4 h5 h6 h7 s.heap.size ) (cwV (C := RX2) 1 hts (goodIn_app (goodIn_of _ (by decide +kernel)) gc_k_X2_firstMisfit_k_X2_letterAt) rfl rfl rfl (by decide +kernel) ⟨(Nat.le_of_ble_eq_true rfl), (Nat.le_of_ble_eq_true rfl)⟩) (kPreV hK hPc hDc (va_recv hK hPc (ci := 2) (q0 := 0) rfl rfl)) rfl rfl hl.1 rfl (lv_room (Nat.le_of_ble_eq_true rfl)) dX2_firstMisfit_4 ⟨(Nat.le_of_ble_eq_true rfl), (Nat.le_of_ble_eq_true rfl)⟩) hS (fun q _ h => False.elim h) (fun q h => False.elim h) (fun r1 u t H1 locs ht hvm hw hB hz1 hk1 hS => ?_)
  have hP := hP.kept (H1 := H1) (fun k q hk => hk1 q.1 (hP k q hk).lt (fun h => h))
  generalize H1 = H at hP hS ⊢
  have hw : r1 = (-1) := hw
  subst hw
  have hPc := hP.sub (ws' := []) [] rfl
  have hDc := hD.sub (ws' := []) [] (by decide) rfl
  refine va_calli (va_runS (As := [.int (-1)]) (rest := []) ⟨hx, hb, hml, hown, hts⟩ (k_X2_lengthOf l D cC cI cZ  H.size ) (va_cwS 1 hts (goodIn_app (goodIn_of _ (by decide +kernel)) gc_k_X2_firstMisfit_k_X2_lengthOf) rfl rfl rfl (by decide +kernel) ⟨(Nat.le_of_ble_eq_true rfl), (Nat.le_of_ble_eq_true rfl)⟩) (kPreS hK hPc hDc) rfl rfl hl.1 rfl (lv_room (Nat.le_of_ble_eq_true rfl)) dX2_firstMisfit_7 ⟨(Nat.le_of_ble_eq_true rfl), (Nat.le_of_ble_eq_true rfl)⟩) hS (fun q _ h => False.elim h) (fun q h => False.elim h) (fun r2 u t H1 locs ht hvm hw hB hz1 hk1 hS => ?_)
  have hP := hP.kept (H1 := H1) (fun k q hk => hk1 q.1 (hP k q hk).lt (fun h => h))
  generalize H1 = H at hP hS ⊢
  have hw : r2 = 0 := hw
  subst hw
  refine lv_istore_n (lv' := [(2, .int 0), (1, .int 0), (0, .ref h0)]) hx hb dX2_firstMisfit_10 rfl hl (by decide) rfl (fun ls hl => ?_)
  refine lv_iload_n hx hb dX2_firstMisfit_11 rfl (lv_at hl 0 rfl) ?_
  refine lv_if_ne (tgt := 17) hx hb dX2_firstMisfit_12 (by decide) (fun c => absurd (by decide) c) (fun _ => ?_)
  refine lv_iload_n hx hb dX2_firstMisfit_15 rfl (lv_at hl 1 rfl) ?_
  exact W.iret (v := 0) hx hb hr (fun t ht hW => ⟨⟨0, (), rfl, rfl, trivial⟩, hS.F ht⟩) hS.2.2 dX2_firstMisfit_16
def sw_k_X2_read : List Cond := .code yX2_read cX2_read 4 (some .int) :: (([.methodLink RX2 15 yX2_firstMisfit, .instanceMethod yX2_firstMisfit, .selects RX2 yX2_firstMisfit yX2_firstMisfit, .initialized RX2] : List Cond) ++ (sw_k_X2_firstMisfit ++ (([] : List Cond))))
theorem gd_k_X2_read : ∀ w ∈ sw_k_X2_read, (w.onTables && w.keeps) = true ∨ ∃ ty, w = .arrayClass ty := List.forall_mem_cons.mpr ⟨good_of_word rfl, List.forall_mem_append.mpr ⟨fun w h => good_of_word (List.all_eq_true.mp (by decide +kernel : (([.methodLink RX2 15 yX2_firstMisfit, .instanceMethod yX2_firstMisfit, .selects RX2 yX2_firstMisfit yX2_firstMisfit, .initialized RX2] : List Cond)).all goodWord = true) w h), List.forall_mem_append.mpr ⟨gd_k_X2_firstMisfit, fun _ h => absurd h List.not_mem_nil⟩⟩⟩
theorem gc_k_X2_read_k_X2_firstMisfit : GoodIn sw_k_X2_read sw_k_X2_firstMisfit := fun w h => ⟨List.mem_cons_of_mem _ (List.mem_append_right _ (List.mem_append_left _ h)), gd_k_X2_firstMisfit w h⟩
set_option maxHeartbeats 4000000 in
set_option maxRecDepth 100000 in
theorem k_X2_read (l : Launch) (D : va_G) (cC cI cZ : ClassId) (h0 h1 h2 h3 h4 h5 h6 h7 : Nat) (sz : Nat) : Met l yX2_read sw_k_X2_read ({ frames := 6, cells := 0, slots := 0, locals := 300 }) (va_Pc [.ref h0] (kPre D cC cI cZ [(h0, .inr (2, [.ref h1])), (h1, .inr (6, [.int 0, .ref h2, .ref h3, .int 0, .int 5, .int 9, .int 0, .int 1, .int 0, .int 0, .ref h4, .ref h5, .int 0, .ref h6, .int 0, .ref h7, .int 0]))] sz)) (va_Qi (fun (r : Int32) (_ : Unit) => r = (-1000)) (fun _ _ => True) (fun _ => False)) 0 0 (fun _ => False) := by
  refine Met.ofW (cc := cX2_read) (maxL := 4) (ret := (some .int)) (by decide) rfl ?_
  intro p e s m args below meth c s₁ B hml hv
  obtain ⟨rfl, hsz, hP, hK, hD0⟩ := hv
  have hx := B.exec
  have hb := B.bytes
  have hr := B.returns
  have hts := atoms_spec (ws := sw_k_X2_read) B.pre
  have hown : s.vm.findClass RX2 = some m.cls := findClass_of_methodNamed B.named
  have hlocks := B.notSynchronized
  subst hsz
  have hD := hD0
  have hS : va_S (fun _ => False) s.heap s.heap [] := va_S.rf
  have hl := lv_entry ([.ref h0]) (n := 4) (Nat.le_of_ble_eq_true rfl)
  rw [lg_entry_eq]
  generalize (lg_sl ([.ref h0]) ++ List.replicate (4 - (lg_sl ([.ref h0])).length) Slot.unset).toArray = ls at hl ⊢
  have hl : lv_has ls 4 [(0, .ref h0)] := hl
  refine lv_aload_n hx hb dX2_read_0 rfl (lv_at hl 0 rfl) ?_
  have hPc := hP.sub (ws' := [(h0, .inr (2, [.ref h1])), (h1, .inr (6, [.int 0, .ref h2, .ref h3, .int 0, .int 5, .int 9, .int 0, .int 1, .int 0, .int 0, .ref h4, .ref h5, .int 0, .ref h6, .int 0, .ref h7, .int 0]))]) [0, 1] rfl
  have hDc := hD.sub (ws' := [(h0, .inr (2, [.ref h1])), (h1, .inr (6, [.int 0, .ref h2, .ref h3, .int 0, .int 5, .int 9, .int 0, .int 1, .int 0, .int 0, .ref h4, .ref h5, .int 0, .ref h6, .int 0, .ref h7, .int 0]))]) [0, 1] (by decide) rfl
  refine va_calli (va_runV (As := []) (rest := []) ⟨hx, hb, hml, hown, hts⟩ (k_X2_firstMisfit l D cC cI cZ h0 h1 h2 h3 h4 h5 h6 h7 s.heap.size ) (cwV (C := RX2) 0 hts (goodIn_app (goodIn_of _ (by decide +kernel)) gc_k_X2_read_k_X2_firstMisfit) rfl rfl rfl (by decide +kernel) ⟨(Nat.le_of_ble_eq_true rfl), (Nat.le_of_ble_eq_true rfl)⟩) (kPreV hK hPc hDc (va_recv hK hPc (ci := 2) (q0 := 0) rfl rfl)) rfl rfl hl.1 rfl (lv_room (Nat.le_of_ble_eq_true rfl)) dX2_read_1 ⟨(Nat.le_of_ble_eq_true rfl), (Nat.le_of_ble_eq_true rfl)⟩) hS (fun q _ h => False.elim h) (fun q h => False.elim h) (fun r1 u t H1 locs ht hvm hw hB hz1 hk1 hS => ?_)
  have hP := hP.kept (H1 := H1) (fun k q hk => hk1 q.1 (hP k q hk).lt (fun h => h))
  generalize H1 = H at hP hS ⊢
  have hw : r1 = 0 := hw
  subst hw
  refine lv_istore_n (lv' := [(1, .int 0), (0, .ref h0)]) hx hb dX2_read_4 rfl hl (by decide) rfl (fun ls hl => ?_)
  refine lv_iload_n hx hb dX2_read_5 rfl (lv_at hl 0 rfl) ?_
  refine lv_if_lt (tgt := 15) hx hb dX2_read_6 (by decide) (fun c => absurd c (by decide)) (fun _ => ?_)
  refine lv_sipush (v := (-1000)) hx hb dX2_read_9 (by decide) ?_
  refine lv_iload_n hx hb dX2_read_12 rfl (lv_at hl 0 rfl) ?_
  refine lv_isub hx hb dX2_read_13 ?_
  refine kt_eq (y := (-1000)) (by decide +kernel) ?_
  exact W.iret (v := (-1000)) hx hb hr (fun t ht hW => ⟨⟨(-1000), (), rfl, rfl, trivial⟩, hS.F ht⟩) hS.2.2 dX2_read_14
def sw_k_X9_kitchen : List Cond := .code yX9_kitchen cX9_kitchen 2 (some .int) :: (([.fieldLink RX9 16 "TopTurned" "trial" "LTopTurned$Told;", .fieldLink RX9 10 "TopTurned" "now" "LTopTurned$Told;", .methodLink RX9 105 yX6_takeFrom, .instanceMethod yX6_takeFrom, .selects RX6 yX6_takeFrom yX6_takeFrom, .initialized RX6, .fieldLink RX9 98 "TopTurned$Told" "letterCount" "I", .fieldLink RX9 31 "TopTurned" "reader" "LTopTurned$Reader;", .methodLink RX9 108 yX2_read, .instanceMethod yX2_read, .selects RX2 yX2_read yX2_read, .initialized RX2] : List Cond) ++ (wsX90 ++ (sw_k_X6_takeFrom ++ (wsX60 ++ (sw_k_X2_read ++ (([] : List Cond)))))))
theorem gd_k_X9_kitchen : ∀ w ∈ sw_k_X9_kitchen, (w.onTables && w.keeps) = true ∨ ∃ ty, w = .arrayClass ty := List.forall_mem_cons.mpr ⟨good_of_word rfl, List.forall_mem_append.mpr ⟨fun w h => good_of_word (List.all_eq_true.mp (by decide +kernel : (([.fieldLink RX9 16 "TopTurned" "trial" "LTopTurned$Told;", .fieldLink RX9 10 "TopTurned" "now" "LTopTurned$Told;", .methodLink RX9 105 yX6_takeFrom, .instanceMethod yX6_takeFrom, .selects RX6 yX6_takeFrom yX6_takeFrom, .initialized RX6, .fieldLink RX9 98 "TopTurned$Told" "letterCount" "I", .fieldLink RX9 31 "TopTurned" "reader" "LTopTurned$Reader;", .methodLink RX9 108 yX2_read, .instanceMethod yX2_read, .selects RX2 yX2_read yX2_read, .initialized RX2] : List Cond)).all goodWord = true) w h), List.forall_mem_append.mpr ⟨gw_X9, List.forall_mem_append.mpr ⟨gd_k_X6_takeFrom, List.forall_mem_append.mpr ⟨gw_X6, List.forall_mem_append.mpr ⟨gd_k_X2_read, fun _ h => absurd h List.not_mem_nil⟩⟩⟩⟩⟩⟩
theorem iw_k_X9_kitchen_X9 : ∀ w ∈ wsX90, w ∈ sw_k_X9_kitchen := fun _ h => List.mem_cons_of_mem _ (List.mem_append_right _ (List.mem_append_left _ h))
theorem gc_k_X9_kitchen_k_X6_takeFrom : GoodIn sw_k_X9_kitchen sw_k_X6_takeFrom := fun w h => ⟨List.mem_cons_of_mem _ (List.mem_append_right _ (List.mem_append_right _ (List.mem_append_left _ h))), gd_k_X6_takeFrom w h⟩
theorem iw_k_X9_kitchen_X6 : ∀ w ∈ wsX60, w ∈ sw_k_X9_kitchen := fun _ h => List.mem_cons_of_mem _ (List.mem_append_right _ (List.mem_append_right _ (List.mem_append_right _ (List.mem_append_left _ h))))
theorem gc_k_X9_kitchen_k_X2_read : GoodIn sw_k_X9_kitchen sw_k_X2_read := fun w h => ⟨List.mem_cons_of_mem _ (List.mem_append_right _ (List.mem_append_right _ (List.mem_append_right _ (List.mem_append_right _ (List.mem_append_left _ h))))), gd_k_X2_read w h⟩
set_option maxHeartbeats 4000000 in
set_option maxRecDepth 100000 in
theorem k_X9_kitchen (l : Launch) (D : va_G) (cC cI cZ : ClassId) (h0 h1 h2 h3 h4 h5 h6 h7 h8 h9 h10 h11 h12 h13 h14 h15 h16 h17 h18 h19 h20 h21 h22 h23 : Nat) (sz : Nat) : Met l yX9_kitchen sw_k_X9_kitchen ({ frames := 8, cells := 0, slots := 0, locals := 400 }) (va_Pc [.ref h0] (kPre D cC cI cZ [(h0, .inr (9, [.ref h1, .ref h2, .ref h16, .int 0, .ref h15, .ref h17, .ref h18, .ref h19, .ref h20, .ref h21, .ref h22, .ref h23])), (h1, .inr (6, [.int 0, .ref h3, .ref h5, .int 0, .int 5, .int 9, .int 0, .int 1, .int 0, .int 0, .ref h7, .ref h9, .int 0, .ref h11, .int 0, .ref h13, .int 0])), (h2, .inr (6, [.int 0, .ref h4, .ref h6, .int 0, .int 5, .int 9, .int 0, .int 1, .int 0, .int 0, .ref h8, .ref h10, .int 0, .ref h12, .int 0, .ref h14, .int 0])), (h3, .inl (cI, 5, .inl (fun _ => 0))), (h4, .inl (cI, 5, .inl (fun _ => 0))), (h5, .inl (cI, 5, .inl (fun _ => 0))), (h6, .inl (cI, 5, .inl (fun _ => 0))), (h7, .inl (cI, 6, .inl (fun _ => 0))), (h8, .inl (cI, 6, .inl (fun _ => 0))), (h9, .inl (cI, 6, .inl (fun _ => 0))), (h10, .inl (cI, 6, .inl (fun _ => 0))), (h11, .inl (cI, 64, .inl (fun _ => 0))), (h12, .inl (cI, 64, .inl (fun _ => 0))), (h13, .inl (cI, 8, .inl (fun _ => 0))), (h14, .inl (cI, 8, .inl (fun _ => 0))), (h15, .inr (2, [.ref h2]))] sz)) (va_Qi (fun (r : Int32) (_ : Unit) => r = (-1000)) (fun _ _ => True) (va_A [(h0, .inr (9, [.ref h1, .ref h2, .ref h16, .int 0, .ref h15, .ref h17, .ref h18, .ref h19, .ref h20, .ref h21, .ref h22, .ref h23])), (h1, .inr (6, [.int 0, .ref h3, .ref h5, .int 0, .int 5, .int 9, .int 0, .int 1, .int 0, .int 0, .ref h7, .ref h9, .int 0, .ref h11, .int 0, .ref h13, .int 0])), (h2, .inr (6, [.int 0, .ref h4, .ref h6, .int 0, .int 5, .int 9, .int 0, .int 1, .int 0, .int 0, .ref h8, .ref h10, .int 0, .ref h12, .int 0, .ref h14, .int 0])), (h3, .inl (cI, 5, .inl (fun _ => 0))), (h4, .inl (cI, 5, .inl (fun _ => 0))), (h5, .inl (cI, 5, .inl (fun _ => 0))), (h6, .inl (cI, 5, .inl (fun _ => 0))), (h7, .inl (cI, 6, .inl (fun _ => 0))), (h8, .inl (cI, 6, .inl (fun _ => 0))), (h9, .inl (cI, 6, .inl (fun _ => 0))), (h10, .inl (cI, 6, .inl (fun _ => 0))), (h11, .inl (cI, 64, .inl (fun _ => 0))), (h12, .inl (cI, 64, .inl (fun _ => 0))), (h13, .inl (cI, 8, .inl (fun _ => 0))), (h14, .inl (cI, 8, .inl (fun _ => 0))), (h15, .inr (2, [.ref h2]))] sz)) 0 0 (va_A [(h0, .inr (9, [.ref h1, .ref h2, .ref h16, .int 0, .ref h15, .ref h17, .ref h18, .ref h19, .ref h20, .ref h21, .ref h22, .ref h23])), (h1, .inr (6, [.int 0, .ref h3, .ref h5, .int 0, .int 5, .int 9, .int 0, .int 1, .int 0, .int 0, .ref h7, .ref h9, .int 0, .ref h11, .int 0, .ref h13, .int 0])), (h2, .inr (6, [.int 0, .ref h4, .ref h6, .int 0, .int 5, .int 9, .int 0, .int 1, .int 0, .int 0, .ref h8, .ref h10, .int 0, .ref h12, .int 0, .ref h14, .int 0])), (h3, .inl (cI, 5, .inl (fun _ => 0))), (h4, .inl (cI, 5, .inl (fun _ => 0))), (h5, .inl (cI, 5, .inl (fun _ => 0))), (h6, .inl (cI, 5, .inl (fun _ => 0))), (h7, .inl (cI, 6, .inl (fun _ => 0))), (h8, .inl (cI, 6, .inl (fun _ => 0))), (h9, .inl (cI, 6, .inl (fun _ => 0))), (h10, .inl (cI, 6, .inl (fun _ => 0))), (h11, .inl (cI, 64, .inl (fun _ => 0))), (h12, .inl (cI, 64, .inl (fun _ => 0))), (h13, .inl (cI, 8, .inl (fun _ => 0))), (h14, .inl (cI, 8, .inl (fun _ => 0))), (h15, .inr (2, [.ref h2]))] sz) := by
  refine Met.ofW (cc := cX9_kitchen) (maxL := 2) (ret := (some .int)) (by decide) rfl ?_
  intro p e s m args below meth c s₁ B hml hv
  obtain ⟨rfl, hsz, hP, hK, hD0⟩ := hv
  have hx := B.exec
  have hb := B.bytes
  have hr := B.returns
  have hts := atoms_spec (ws := sw_k_X9_kitchen) B.pre
  have hown : s.vm.findClass RX9 = some m.cls := findClass_of_methodNamed B.named
  have hlocks := B.notSynchronized
  subst hsz
  have hD := hD0.self (sz := s.heap.size)
  generalize hAe : va_A [(h0, .inr (9, [.ref h1, .ref h2, .ref h16, .int 0, .ref h15, .ref h17, .ref h18, .ref h19, .ref h20, .ref h21, .ref h22, .ref h23])), (h1, .inr (6, [.int 0, .ref h3, .ref h5, .int 0, .int 5, .int 9, .int 0, .int 1, .int 0, .int 0, .ref h7, .ref h9, .int 0, .ref h11, .int 0, .ref h13, .int 0])), (h2, .inr (6, [.int 0, .ref h4, .ref h6, .int 0, .int 5, .int 9, .int 0, .int 1, .int 0, .int 0, .ref h8, .ref h10, .int 0, .ref h12, .int 0, .ref h14, .int 0])), (h3, .inl (cI, 5, .inl (fun _ => 0))), (h4, .inl (cI, 5, .inl (fun _ => 0))), (h5, .inl (cI, 5, .inl (fun _ => 0))), (h6, .inl (cI, 5, .inl (fun _ => 0))), (h7, .inl (cI, 6, .inl (fun _ => 0))), (h8, .inl (cI, 6, .inl (fun _ => 0))), (h9, .inl (cI, 6, .inl (fun _ => 0))), (h10, .inl (cI, 6, .inl (fun _ => 0))), (h11, .inl (cI, 64, .inl (fun _ => 0))), (h12, .inl (cI, 64, .inl (fun _ => 0))), (h13, .inl (cI, 8, .inl (fun _ => 0))), (h14, .inl (cI, 8, .inl (fun _ => 0))), (h15, .inr (2, [.ref h2]))] s.heap.size = A at hD ⊢
  have hA : ∀ q : Nat, s.heap.size ≤ q → A q := fun q h => by rw [← hAe]; exact Or.inr h
  have hS : va_S A s.heap s.heap [] := va_S.rf
  have hl := lv_entry ([.ref h0]) (n := 2) (Nat.le_of_ble_eq_true rfl)
  rw [lg_entry_eq]
  generalize (lg_sl ([.ref h0]) ++ List.replicate (2 - (lg_sl ([.ref h0])).length) Slot.unset).toArray = ls at hl ⊢
  have hl : lv_has ls 2 [(0, .ref h0)] := hl
  refine lv_aload_n hx hb dX9_kitchen_0 rfl (lv_at hl 0 rfl) ?_
  refine va_get (D := D) (ci := 9) (v := .ref h2) (C := RX9) (T := TX9) (N := 12) hx hb hts iw_k_X9_kitchen_X9 hown hK hP 0 rfl rfl 1 (by decide) (hts (.fieldLink RX9 16 "TopTurned" "trial" "LTopTurned$Told;") (by decide +kernel)) (fun _ h9 => h9) rfl dX9_kitchen_1 ?_
  refine lv_aload_n hx hb dX9_kitchen_4 rfl (lv_at hl 0 rfl) ?_
  refine va_get (D := D) (ci := 9) (v := .ref h1) (C := RX9) (T := TX9) (N := 12) hx hb hts iw_k_X9_kitchen_X9 hown hK hP 0 rfl rfl 0 (by decide) (hts (.fieldLink RX9 10 "TopTurned" "now" "LTopTurned$Told;") (by decide +kernel)) (fun _ h9 => h9) rfl dX9_kitchen_5 ?_
  have hPc := hP.sub (ws' := [(h1, .inr (6, [.int 0, .ref h3, .ref h5, .int 0, .int 5, .int 9, .int 0, .int 1, .int 0, .int 0, .ref h7, .ref h9, .int 0, .ref h11, .int 0, .ref h13, .int 0])), (h2, .inr (6, [.int 0, .ref h4, .ref h6, .int 0, .int 5, .int 9, .int 0, .int 1, .int 0, .int 0, .ref h8, .ref h10, .int 0, .ref h12, .int 0, .ref h14, .int 0])), (h3, .inl (cI, 5, .inl (fun _ => 0))), (h4, .inl (cI, 5, .inl (fun _ => 0))), (h5, .inl (cI, 5, .inl (fun _ => 0))), (h6, .inl (cI, 5, .inl (fun _ => 0))), (h7, .inl (cI, 6, .inl (fun _ => 0))), (h8, .inl (cI, 6, .inl (fun _ => 0))), (h9, .inl (cI, 6, .inl (fun _ => 0))), (h10, .inl (cI, 6, .inl (fun _ => 0))), (h11, .inl (cI, 64, .inl (fun _ => 0))), (h12, .inl (cI, 64, .inl (fun _ => 0))), (h13, .inl (cI, 8, .inl (fun _ => 0))), (h14, .inl (cI, 8, .inl (fun _ => 0)))]) [1, 2, 3, 4, 5, 6, 7, 8, 9, 10, 11, 12, 13, 14] rfl
  have hDc := hD.sub (ws' := [(h1, .inr (6, [.int 0, .ref h3, .ref h5, .int 0, .int 5, .int 9, .int 0, .int 1, .int 0, .int 0, .ref h7, .ref h9, .int 0, .ref h11, .int 0, .ref h13, .int 0])), (h2, .inr (6, [.int 0, .ref h4, .ref h6, .int 0, .int 5, .int 9, .int 0, .int 1, .int 0, .int 0, .ref h8, .ref h10, .int 0, .ref h12, .int 0, .ref h14, .int 0])), (h3, .inl (cI, 5, .inl (fun _ => 0))), (h4, .inl (cI, 5, .inl (fun _ => 0))), (h5, .inl (cI, 5, .inl (fun _ => 0))), (h6, .inl (cI, 5, .inl (fun _ => 0))), (h7, .inl (cI, 6, .inl (fun _ => 0))), (h8, .inl (cI, 6, .inl (fun _ => 0))), (h9, .inl (cI, 6, .inl (fun _ => 0))), (h10, .inl (cI, 6, .inl (fun _ => 0))), (h11, .inl (cI, 64, .inl (fun _ => 0))), (h12, .inl (cI, 64, .inl (fun _ => 0))), (h13, .inl (cI, 8, .inl (fun _ => 0))), (h14, .inl (cI, 8, .inl (fun _ => 0)))]) [1, 2, 3, 4, 5, 6, 7, 8, 9, 10, 11, 12, 13, 14] (by decide) rfl
  have hFc := va_free (wc := [(h1, .inr (6, [.int 0, .ref h3, .ref h5, .int 0, .int 5, .int 9, .int 0, .int 1, .int 0, .int 0, .ref h7, .ref h9, .int 0, .ref h11, .int 0, .ref h13, .int 0])), (h2, .inr (6, [.int 0, .ref h4, .ref h6, .int 0, .int 5, .int 9, .int 0, .int 1, .int 0, .int 0, .ref h8, .ref h10, .int 0, .ref h12, .int 0, .ref h14, .int 0])), (h3, .inl (cI, 5, .inl (fun _ => 0))), (h4, .inl (cI, 5, .inl (fun _ => 0))), (h5, .inl (cI, 5, .inl (fun _ => 0))), (h6, .inl (cI, 5, .inl (fun _ => 0))), (h7, .inl (cI, 6, .inl (fun _ => 0))), (h8, .inl (cI, 6, .inl (fun _ => 0))), (h9, .inl (cI, 6, .inl (fun _ => 0))), (h10, .inl (cI, 6, .inl (fun _ => 0))), (h11, .inl (cI, 64, .inl (fun _ => 0))), (h12, .inl (cI, 64, .inl (fun _ => 0))), (h13, .inl (cI, 8, .inl (fun _ => 0))), (h14, .inl (cI, 8, .inl (fun _ => 0)))]) hD hS hA [1, 2, 3, 4, 5, 6, 7, 8, 9, 10, 11, 12, 13, 14] rfl
  refine va_callv (va_runV (As := [.ref h1]) (rest := []) ⟨hx, hb, hml, hown, hts⟩ (k_X6_takeFrom l D cC cI cZ h2 h1 h3 h4 h5 h6 h7 h8 h9 h10 h11 h12 h13 h14 s.heap.size ) (cwV (C := RX6) 1 hts (goodIn_app (goodIn_of _ (by decide +kernel)) gc_k_X9_kitchen_k_X6_takeFrom) rfl rfl rfl (by decide +kernel) ⟨(Nat.le_of_ble_eq_true rfl), (Nat.le_of_ble_eq_true rfl)⟩) (kPreV hK hPc hDc (va_recv hK hPc (ci := 6) (q0 := 1) rfl rfl)) rfl rfl hl.1 rfl (lv_room (Nat.le_of_ble_eq_true rfl)) dX9_kitchen_8 ⟨(Nat.le_of_ble_eq_true rfl), (Nat.le_of_ble_eq_true rfl)⟩) hS (fun q _ h => hFc q h) hFc (fun u t H1 locs ht hvm hw hB hz1 hk1 hS => ?_)
  obtain ⟨hP1, hD1⟩ := hB
  rw [ht] at hP1
  obtain ⟨hP, hD⟩ := va_join (wr := [(h0, .inr (9, [.ref h1, .ref h2, .ref h16, .int 0, .ref h15, .ref h17, .ref h18, .ref h19, .ref h20, .ref h21, .ref h22, .ref h23])), (h15, .inr (2, [.ref h2]))]) (w1 := [(h1, .inr (6, [.int 0, .ref h3, .ref h5, .int 0, .int 5, .int 9, .int 0, .int 1, .int 0, .int 0, .ref h7, .ref h9, .int 0, .ref h11, .int 0, .ref h13, .int 0])), (h2, .inr (6, [.int 0, .ref h4, .ref h6, .int 0, .int 5, .int 9, .int 0, .int 1, .int 0, .int 0, .ref h8, .ref h10, .int 0, .ref h12, .int 0, .ref h14, .int 0])), (h3, .inl (cI, 5, .inl (fun _ => 0))), (h4, .inl (cI, 5, .inl (va_cpy (fun _ => 0) (fun _ => 0) (Int32.toNatClampNeg 0) (Int32.toNatClampNeg 0) (Int32.toNatClampNeg 5)))), (h5, .inl (cI, 5, .inl (fun _ => 0))), (h6, .inl (cI, 5, .inl (va_cpy (fun _ => 0) (fun _ => 0) (Int32.toNatClampNeg 0) (Int32.toNatClampNeg 0) (Int32.toNatClampNeg 5)))), (h7, .inl (cI, 6, .inl (fun _ => 0))), (h8, .inl (cI, 6, .inl (va_cpy (fun _ => 0) (fun _ => 0) (Int32.toNatClampNeg 0) (Int32.toNatClampNeg 0) (Int32.toNatClampNeg 6)))), (h9, .inl (cI, 6, .inl (fun _ => 0))), (h10, .inl (cI, 6, .inl (va_cpy (fun _ => 0) (fun _ => 0) (Int32.toNatClampNeg 0) (Int32.toNatClampNeg 0) (Int32.toNatClampNeg 6)))), (h11, .inl (cI, 64, .inl (fun _ => 0))), (h12, .inl (cI, 64, .inl (va_cpy (fun _ => 0) (fun _ => 0) (Int32.toNatClampNeg 0) (Int32.toNatClampNeg 0) (Int32.toNatClampNeg 64)))), (h13, .inl (cI, 8, .inl (fun _ => 0))), (h14, .inl (cI, 8, .inl (va_cpy (fun _ => 0) (fun _ => 0) (Int32.toNatClampNeg 0) (Int32.toNatClampNeg 0) (Int32.toNatClampNeg 8))))]) hP hD [1, 2, 3, 4, 5, 6, 7, 8, 9, 10, 11, 12, 13, 14] [0, 15] rfl rfl (by decide) (by decide) hk1 hFc hP1 hD1
  generalize H1 = H at hP hS ⊢
  have hP : va_P D vwCl [(h0, .inr (9, [.ref h1, .ref h2, .ref h16, .int 0, .ref h15, .ref h17, .ref h18, .ref h19, .ref h20, .ref h21, .ref h22, .ref h23])), (h15, .inr (2, [.ref h2])), (h1, .inr (6, [.int 0, .ref h3, .ref h5, .int 0, .int 5, .int 9, .int 0, .int 1, .int 0, .int 0, .ref h7, .ref h9, .int 0, .ref h11, .int 0, .ref h13, .int 0])), (h2, .inr (6, [.int 0, .ref h4, .ref h6, .int 0, .int 5, .int 9, .int 0, .int 1, .int 0, .int 0, .ref h8, .ref h10, .int 0, .ref h12, .int 0, .ref h14, .int 0])), (h3, .inl (cI, 5, .inl (fun _ => 0))), (h4, .inl (cI, 5, .inl (va_cpy (fun _ => 0) (fun _ => 0) (Int32.toNatClampNeg 0) (Int32.toNatClampNeg 0) (Int32.toNatClampNeg 5)))), (h5, .inl (cI, 5, .inl (fun _ => 0))), (h6, .inl (cI, 5, .inl (va_cpy (fun _ => 0) (fun _ => 0) (Int32.toNatClampNeg 0) (Int32.toNatClampNeg 0) (Int32.toNatClampNeg 5)))), (h7, .inl (cI, 6, .inl (fun _ => 0))), (h8, .inl (cI, 6, .inl (va_cpy (fun _ => 0) (fun _ => 0) (Int32.toNatClampNeg 0) (Int32.toNatClampNeg 0) (Int32.toNatClampNeg 6)))), (h9, .inl (cI, 6, .inl (fun _ => 0))), (h10, .inl (cI, 6, .inl (va_cpy (fun _ => 0) (fun _ => 0) (Int32.toNatClampNeg 0) (Int32.toNatClampNeg 0) (Int32.toNatClampNeg 6)))), (h11, .inl (cI, 64, .inl (fun _ => 0))), (h12, .inl (cI, 64, .inl (va_cpy (fun _ => 0) (fun _ => 0) (Int32.toNatClampNeg 0) (Int32.toNatClampNeg 0) (Int32.toNatClampNeg 64)))), (h13, .inl (cI, 8, .inl (fun _ => 0))), (h14, .inl (cI, 8, .inl (va_cpy (fun _ => 0) (fun _ => 0) (Int32.toNatClampNeg 0) (Int32.toNatClampNeg 0) (Int32.toNatClampNeg 8))))] H := hP
  have hD : va_D A [(h0, .inr (9, [.ref h1, .ref h2, .ref h16, .int 0, .ref h15, .ref h17, .ref h18, .ref h19, .ref h20, .ref h21, .ref h22, .ref h23])), (h15, .inr (2, [.ref h2])), (h1, .inr (6, [.int 0, .ref h3, .ref h5, .int 0, .int 5, .int 9, .int 0, .int 1, .int 0, .int 0, .ref h7, .ref h9, .int 0, .ref h11, .int 0, .ref h13, .int 0])), (h2, .inr (6, [.int 0, .ref h4, .ref h6, .int 0, .int 5, .int 9, .int 0, .int 1, .int 0, .int 0, .ref h8, .ref h10, .int 0, .ref h12, .int 0, .ref h14, .int 0])), (h3, .inl (cI, 5, .inl (fun _ => 0))), (h4, .inl (cI, 5, .inl (va_cpy (fun _ => 0) (fun _ => 0) (Int32.toNatClampNeg 0) (Int32.toNatClampNeg 0) (Int32.toNatClampNeg 5)))), (h5, .inl (cI, 5, .inl (fun _ => 0))), (h6, .inl (cI, 5, .inl (va_cpy (fun _ => 0) (fun _ => 0) (Int32.toNatClampNeg 0) (Int32.toNatClampNeg 0) (Int32.toNatClampNeg 5)))), (h7, .inl (cI, 6, .inl (fun _ => 0))), (h8, .inl (cI, 6, .inl (va_cpy (fun _ => 0) (fun _ => 0) (Int32.toNatClampNeg 0) (Int32.toNatClampNeg 0) (Int32.toNatClampNeg 6)))), (h9, .inl (cI, 6, .inl (fun _ => 0))), (h10, .inl (cI, 6, .inl (va_cpy (fun _ => 0) (fun _ => 0) (Int32.toNatClampNeg 0) (Int32.toNatClampNeg 0) (Int32.toNatClampNeg 6)))), (h11, .inl (cI, 64, .inl (fun _ => 0))), (h12, .inl (cI, 64, .inl (va_cpy (fun _ => 0) (fun _ => 0) (Int32.toNatClampNeg 0) (Int32.toNatClampNeg 0) (Int32.toNatClampNeg 64)))), (h13, .inl (cI, 8, .inl (fun _ => 0))), (h14, .inl (cI, 8, .inl (va_cpy (fun _ => 0) (fun _ => 0) (Int32.toNatClampNeg 0) (Int32.toNatClampNeg 0) (Int32.toNatClampNeg 8))))] := hD
  refine lv_aload_n hx hb dX9_kitchen_11 rfl (lv_at hl 0 rfl) ?_
  refine va_get (D := D) (ci := 9) (v := .ref h1) (C := RX9) (T := TX9) (N := 12) hx hb hts iw_k_X9_kitchen_X9 hown hK hP 0 rfl rfl 0 (by decide) (hts (.fieldLink RX9 10 "TopTurned" "now" "LTopTurned$Told;") (by decide +kernel)) (fun _ h9 => h9) rfl dX9_kitchen_12 ?_
  refine lv_iconst (v := 0) hx hb dX9_kitchen_15 (by decide) ?_
  refine va_put (D := D) (ci := 6) (v := .int 0) (ty := .int) (C := RX6) (T := TX6) (N := 17) hx hb hts iw_k_X9_kitchen_X6 tyX6 tyX6_ok nmX6 hown hK hP hD hS 2 rfl rfl 14 (by decide) (hts (.fieldLink RX9 98 "TopTurned$Told" "letterCount" "I") (by decide +kernel)) (fun _ h9 => h9) rfl (by decide +kernel) rfl rfl (Nat.le_of_ble_eq_true rfl) dX9_kitchen_16 (fun H locs hP hD hS => ?_)
  have hP : va_P D vwCl [(h0, .inr (9, [.ref h1, .ref h2, .ref h16, .int 0, .ref h15, .ref h17, .ref h18, .ref h19, .ref h20, .ref h21, .ref h22, .ref h23])), (h15, .inr (2, [.ref h2])), (h1, .inr (6, [.int 0, .ref h3, .ref h5, .int 0, .int 5, .int 9, .int 0, .int 1, .int 0, .int 0, .ref h7, .ref h9, .int 0, .ref h11, .int 0, .ref h13, .int 0])), (h2, .inr (6, [.int 0, .ref h4, .ref h6, .int 0, .int 5, .int 9, .int 0, .int 1, .int 0, .int 0, .ref h8, .ref h10, .int 0, .ref h12, .int 0, .ref h14, .int 0])), (h3, .inl (cI, 5, .inl (fun _ => 0))), (h4, .inl (cI, 5, .inl (va_cpy (fun _ => 0) (fun _ => 0) (Int32.toNatClampNeg 0) (Int32.toNatClampNeg 0) (Int32.toNatClampNeg 5)))), (h5, .inl (cI, 5, .inl (fun _ => 0))), (h6, .inl (cI, 5, .inl (va_cpy (fun _ => 0) (fun _ => 0) (Int32.toNatClampNeg 0) (Int32.toNatClampNeg 0) (Int32.toNatClampNeg 5)))), (h7, .inl (cI, 6, .inl (fun _ => 0))), (h8, .inl (cI, 6, .inl (va_cpy (fun _ => 0) (fun _ => 0) (Int32.toNatClampNeg 0) (Int32.toNatClampNeg 0) (Int32.toNatClampNeg 6)))), (h9, .inl (cI, 6, .inl (fun _ => 0))), (h10, .inl (cI, 6, .inl (va_cpy (fun _ => 0) (fun _ => 0) (Int32.toNatClampNeg 0) (Int32.toNatClampNeg 0) (Int32.toNatClampNeg 6)))), (h11, .inl (cI, 64, .inl (fun _ => 0))), (h12, .inl (cI, 64, .inl (va_cpy (fun _ => 0) (fun _ => 0) (Int32.toNatClampNeg 0) (Int32.toNatClampNeg 0) (Int32.toNatClampNeg 64)))), (h13, .inl (cI, 8, .inl (fun _ => 0))), (h14, .inl (cI, 8, .inl (va_cpy (fun _ => 0) (fun _ => 0) (Int32.toNatClampNeg 0) (Int32.toNatClampNeg 0) (Int32.toNatClampNeg 8))))] H := hP
  have hD : va_D A [(h0, .inr (9, [.ref h1, .ref h2, .ref h16, .int 0, .ref h15, .ref h17, .ref h18, .ref h19, .ref h20, .ref h21, .ref h22, .ref h23])), (h15, .inr (2, [.ref h2])), (h1, .inr (6, [.int 0, .ref h3, .ref h5, .int 0, .int 5, .int 9, .int 0, .int 1, .int 0, .int 0, .ref h7, .ref h9, .int 0, .ref h11, .int 0, .ref h13, .int 0])), (h2, .inr (6, [.int 0, .ref h4, .ref h6, .int 0, .int 5, .int 9, .int 0, .int 1, .int 0, .int 0, .ref h8, .ref h10, .int 0, .ref h12, .int 0, .ref h14, .int 0])), (h3, .inl (cI, 5, .inl (fun _ => 0))), (h4, .inl (cI, 5, .inl (va_cpy (fun _ => 0) (fun _ => 0) (Int32.toNatClampNeg 0) (Int32.toNatClampNeg 0) (Int32.toNatClampNeg 5)))), (h5, .inl (cI, 5, .inl (fun _ => 0))), (h6, .inl (cI, 5, .inl (va_cpy (fun _ => 0) (fun _ => 0) (Int32.toNatClampNeg 0) (Int32.toNatClampNeg 0) (Int32.toNatClampNeg 5)))), (h7, .inl (cI, 6, .inl (fun _ => 0))), (h8, .inl (cI, 6, .inl (va_cpy (fun _ => 0) (fun _ => 0) (Int32.toNatClampNeg 0) (Int32.toNatClampNeg 0) (Int32.toNatClampNeg 6)))), (h9, .inl (cI, 6, .inl (fun _ => 0))), (h10, .inl (cI, 6, .inl (va_cpy (fun _ => 0) (fun _ => 0) (Int32.toNatClampNeg 0) (Int32.toNatClampNeg 0) (Int32.toNatClampNeg 6)))), (h11, .inl (cI, 64, .inl (fun _ => 0))), (h12, .inl (cI, 64, .inl (va_cpy (fun _ => 0) (fun _ => 0) (Int32.toNatClampNeg 0) (Int32.toNatClampNeg 0) (Int32.toNatClampNeg 64)))), (h13, .inl (cI, 8, .inl (fun _ => 0))), (h14, .inl (cI, 8, .inl (va_cpy (fun _ => 0) (fun _ => 0) (Int32.toNatClampNeg 0) (Int32.toNatClampNeg 0) (Int32.toNatClampNeg 8))))] := hD
  refine lv_aload_n hx hb dX9_kitchen_19 rfl (lv_at hl 0 rfl) ?_
  refine va_get (D := D) (ci := 9) (v := .ref h15) (C := RX9) (T := TX9) (N := 12) hx hb hts iw_k_X9_kitchen_X9 hown hK hP 0 rfl rfl 4 (by decide) (hts (.fieldLink RX9 31 "TopTurned" "reader" "LTopTurned$Reader;") (by decide +kernel)) (fun _ h9 => h9) rfl dX9_kitchen_20 ?_
  have hPc := hP.sub (ws' := [(h15, .inr (2, [.ref h2])), (h2, .inr (6, [.int 0, .ref h4, .ref h6, .int 0, .int 5, .int 9, .int 0, .int 1, .int 0, .int 0, .ref h8, .ref h10, .int 0, .ref h12, .int 0, .ref h14, .int 0]))]) [1, 3] rfl
  have hDc := hD.sub (ws' := [(h15, .inr (2, [.ref h2])), (h2, .inr (6, [.int 0, .ref h4, .ref h6, .int 0, .int 5, .int 9, .int 0, .int 1, .int 0, .int 0, .ref h8, .ref h10, .int 0, .ref h12, .int 0, .ref h14, .int 0]))]) [1, 3] (by decide) rfl
  refine va_calli (va_runV (As := []) (rest := []) ⟨hx, hb, hml, hown, hts⟩ (k_X2_read l D cC cI cZ h15 h2 h4 h6 h8 h10 h12 h14 H.size ) (cwV (C := RX2) 0 hts (goodIn_app (goodIn_of _ (by decide +kernel)) gc_k_X9_kitchen_k_X2_read) rfl rfl rfl (by decide +kernel) ⟨(Nat.le_of_ble_eq_true rfl), (Nat.le_of_ble_eq_true rfl)⟩) (kPreV hK hPc hDc (va_recv hK hPc (ci := 2) (q0 := 0) rfl rfl)) rfl rfl hl.1 rfl (lv_room (Nat.le_of_ble_eq_true rfl)) dX9_kitchen_23 ⟨(Nat.le_of_ble_eq_true rfl), (Nat.le_of_ble_eq_true rfl)⟩) hS (fun q _ h => False.elim h) (fun q h => False.elim h) (fun r1 u t H1 locs ht hvm hw hB hz1 hk1 hS => ?_)
  have hP := hP.kept (H1 := H1) (fun k q hk => hk1 q.1 (hP k q hk).lt (fun h => h))
  generalize H1 = H at hP hS ⊢
  have hw : r1 = (-1000) := hw
  subst hw
  refine lv_istore_n (lv' := [(1, .int (-1000)), (0, .ref h0)]) hx hb dX9_kitchen_26 rfl hl (by decide) rfl (fun ls hl => ?_)
  refine lv_iload_n hx hb dX9_kitchen_27 rfl (lv_at hl 0 rfl) ?_
  refine lv_if_ge (tgt := 33) hx hb dX9_kitchen_28 (by decide) (fun c => absurd c (by decide)) (fun _ => ?_)
  refine lv_iload_n hx hb dX9_kitchen_31 rfl (lv_at hl 0 rfl) ?_
  refine W.widen (k := 0) (n := 0) (Nat.le_of_ble_eq_true rfl) (Nat.le_of_ble_eq_true rfl) ?_
  exact W.iret (v := (-1000)) hx hb hr (fun t ht hW => ⟨⟨(-1000), (), rfl, rfl, trivial⟩, hS.F ht⟩) hS.2.2 dX9_kitchen_32
def sw_k_X9_refuse_2 : List Cond := .code yX9_refuse cX9_refuse 2 (some .int) :: (([.fieldLink RX9 90 "TopTurned" "refusals" "[I"] : List Cond) ++ (wsX90 ++ (([] : List Cond))))
theorem gd_k_X9_refuse_2 : ∀ w ∈ sw_k_X9_refuse_2, (w.onTables && w.keeps) = true ∨ ∃ ty, w = .arrayClass ty := List.forall_mem_cons.mpr ⟨good_of_word rfl, List.forall_mem_append.mpr ⟨fun w h => good_of_word (List.all_eq_true.mp (by decide +kernel : (([.fieldLink RX9 90 "TopTurned" "refusals" "[I"] : List Cond)).all goodWord = true) w h), List.forall_mem_append.mpr ⟨gw_X9, fun _ h => absurd h List.not_mem_nil⟩⟩⟩
theorem iw_k_X9_refuse_2_X9 : ∀ w ∈ wsX90, w ∈ sw_k_X9_refuse_2 := fun _ h => List.mem_cons_of_mem _ (List.mem_append_right _ (List.mem_append_left _ h))
set_option maxHeartbeats 4000000 in
set_option maxRecDepth 100000 in
theorem k_X9_refuse_2 (l : Launch) (D : va_G) (cC cI cZ : ClassId) (h0 h1 h2 h3 h4 h5 h6 h7 h8 h9 h10 h11 : Nat) (sz : Nat) : Met l yX9_refuse sw_k_X9_refuse_2 ({ frames := 2, cells := 0, slots := 0, locals := 100 }) (va_Pc [.ref h0, .int (-1)] (kPre D cC cI cZ [(h0, .inr (9, [.ref h2, .ref h3, .ref h4, .int 0, .ref h5, .ref h6, .ref h7, .ref h8, .ref h9, .ref h10, .ref h11, .ref h1])), (h1, .inl (cI, 7, .inl (fun _ => 0)))] sz)) (va_Qi (fun (r : Int32) (_ : Unit) => r = (-1)) (fun _ t => va_P D vwCl [(h0, .inr (9, [.ref h2, .ref h3, .ref h4, .int 0, .ref h5, .ref h6, .ref h7, .ref h8, .ref h9, .ref h10, .ref h11, .ref h1])), (h1, .inl (cI, 7, .inl (upd (fun _ => 0) (Int32.toNatClampNeg 1) 1)))] t.heap ∧ va_D (va_A [(h0, .inr (9, [.ref h2, .ref h3, .ref h4, .int 0, .ref h5, .ref h6, .ref h7, .ref h8, .ref h9, .ref h10, .ref h11, .ref h1])), (h1, .inl (cI, 7, .inl (fun _ => 0)))] sz) [(h0, .inr (9, [.ref h2, .ref h3, .ref h4, .int 0, .ref h5, .ref h6, .ref h7, .ref h8, .ref h9, .ref h10, .ref h11, .ref h1])), (h1, .inl (cI, 7, .inl (upd (fun _ => 0) (Int32.toNatClampNeg 1) 1)))]) (va_A [(h0, .inr (9, [.ref h2, .ref h3, .ref h4, .int 0, .ref h5, .ref h6, .ref h7, .ref h8, .ref h9, .ref h10, .ref h11, .ref h1])), (h1, .inl (cI, 7, .inl (fun _ => 0)))] sz)) 0 0 (va_A [(h0, .inr (9, [.ref h2, .ref h3, .ref h4, .int 0, .ref h5, .ref h6, .ref h7, .ref h8, .ref h9, .ref h10, .ref h11, .ref h1])), (h1, .inl (cI, 7, .inl (fun _ => 0)))] sz) := by
  refine Met.ofW (cc := cX9_refuse) (maxL := 2) (ret := (some .int)) (by decide) rfl ?_
  intro p e s m args below meth c s₁ B hml hv
  obtain ⟨rfl, hsz, hP, hK, hD0⟩ := hv
  have hx := B.exec
  have hb := B.bytes
  have hr := B.returns
  have hts := atoms_spec (ws := sw_k_X9_refuse_2) B.pre
  have hown : s.vm.findClass RX9 = some m.cls := findClass_of_methodNamed B.named
  have hlocks := B.notSynchronized
  subst hsz
  have hD := hD0.self (sz := s.heap.size)
  generalize hAe : va_A [(h0, .inr (9, [.ref h2, .ref h3, .ref h4, .int 0, .ref h5, .ref h6, .ref h7, .ref h8, .ref h9, .ref h10, .ref h11, .ref h1])), (h1, .inl (cI, 7, .inl (fun _ => 0)))] s.heap.size = A at hD ⊢
  have hA : ∀ q : Nat, s.heap.size ≤ q → A q := fun q h => by rw [← hAe]; exact Or.inr h
  have hS : va_S A s.heap s.heap [] := va_S.rf
  have hl := lv_entry ([.ref h0, .int (-1)]) (n := 2) (Nat.le_of_ble_eq_true rfl)
  rw [lg_entry_eq]
  generalize (lg_sl ([.ref h0, .int (-1)]) ++ List.replicate (2 - (lg_sl ([.ref h0, .int (-1)])).length) Slot.unset).toArray = ls at hl ⊢
  have hl : lv_has ls 2 [(0, .ref h0), (1, .int (-1))] := hl
  refine lv_aload_n hx hb dX9_refuse_0 rfl (lv_at hl 0 rfl) ?_
  refine va_get (D := D) (ci := 9) (v := .ref h1) (C := RX9) (T := TX9) (N := 12) hx hb hts iw_k_X9_refuse_2_X9 hown hK hP 0 rfl rfl 11 (by decide) (hts (.fieldLink RX9 90 "TopTurned" "refusals" "[I") (by decide +kernel)) (fun _ h9 => h9) rfl dX9_refuse_1 ?_
  refine lv_iload_n hx hb dX9_refuse_4 rfl (lv_at hl 1 rfl) ?_
  refine lv_ineg hx hb dX9_refuse_5 ?_
  refine kt_eq (y := 1) (by decide +kernel) ?_
  refine lv_dup2_11 hx hb dX9_refuse_6 rfl rfl ?_
  refine va_iald (i := 1) hx hb hK hP 1 1 rfl rfl (vp_in_iff.mpr (by decide)) dX9_refuse_7 ?_
  refine kt_eq (y := 0) (by decide +kernel) ?_
  refine lv_iconst (v := 1) hx hb dX9_refuse_8 (by decide) ?_
  refine lv_iadd hx hb dX9_refuse_9 ?_
  refine kt_eq (y := 1) (by decide +kernel) ?_
  refine va_iast (i := 1) (x := 1) hx hb hK hP hD hS 1 1 rfl rfl (vp_in_iff.mpr (by decide)) dX9_refuse_10 (fun H locs hP hD hS => ?_)
  have hP : va_P D vwCl [(h0, .inr (9, [.ref h2, .ref h3, .ref h4, .int 0, .ref h5, .ref h6, .ref h7, .ref h8, .ref h9, .ref h10, .ref h11, .ref h1])), (h1, .inl (cI, 7, .inl (upd (fun _ => 0) (Int32.toNatClampNeg 1) 1)))] H := hP
  have hD : va_D A [(h0, .inr (9, [.ref h2, .ref h3, .ref h4, .int 0, .ref h5, .ref h6, .ref h7, .ref h8, .ref h9, .ref h10, .ref h11, .ref h1])), (h1, .inl (cI, 7, .inl (upd (fun _ => 0) (Int32.toNatClampNeg 1) 1)))] := hD
  refine lv_iload_n hx hb dX9_refuse_11 rfl (lv_at hl 1 rfl) ?_
  refine W.widen (k := 0) (n := 0) (Nat.le_of_ble_eq_true rfl) (Nat.le_of_ble_eq_true rfl) ?_
  have hP9 := hP.sub (ws' := [(h0, .inr (9, [.ref h2, .ref h3, .ref h4, .int 0, .ref h5, .ref h6, .ref h7, .ref h8, .ref h9, .ref h10, .ref h11, .ref h1])), (h1, .inl (cI, 7, .inl (upd (fun _ => 0) (Int32.toNatClampNeg 1) 1)))]) [0, 1] rfl
  have hD9 := hD.sub (ws' := [(h0, .inr (9, [.ref h2, .ref h3, .ref h4, .int 0, .ref h5, .ref h6, .ref h7, .ref h8, .ref h9, .ref h10, .ref h11, .ref h1])), (h1, .inl (cI, 7, .inl (upd (fun _ => 0) (Int32.toNatClampNeg 1) 1)))]) [0, 1] (by decide) rfl
  exact W.iret (v := (-1)) hx hb hr (fun t ht hW => ⟨⟨(-1), (), rfl, rfl, ⟨by rw [ht]; exact hP9, hD9⟩⟩, hS.F ht⟩) hS.2.2 dX9_refuse_12
def sw_k_X9_place : List Cond := .code yX9_place cX9_place 4 (some .int) :: (([.methodLink RX9 94 yX9_refuse, .instanceMethod yX9_refuse, .selects RX9 yX9_refuse yX9_refuse, .initialized RX9, .fieldLink RX9 10 "TopTurned" "now" "LTopTurned$Told;", .fieldLink RX9 115 "TopTurned$Told" "plates" "I"] : List Cond) ++ (sw_k_X9_refuse_2 ++ (wsX90 ++ (wsX60 ++ (([] : List Cond))))))
theorem gd_k_X9_place : ∀ w ∈ sw_k_X9_place, (w.onTables && w.keeps) = true ∨ ∃ ty, w = .arrayClass ty := List.forall_mem_cons.mpr ⟨good_of_word rfl, List.forall_mem_append.mpr ⟨fun w h => good_of_word (List.all_eq_true.mp (by decide +kernel : (([.methodLink RX9 94 yX9_refuse, .instanceMethod yX9_refuse, .selects RX9 yX9_refuse yX9_refuse, .initialized RX9, .fieldLink RX9 10 "TopTurned" "now" "LTopTurned$Told;", .fieldLink RX9 115 "TopTurned$Told" "plates" "I"] : List Cond)).all goodWord = true) w h), List.forall_mem_append.mpr ⟨gd_k_X9_refuse_2, List.forall_mem_append.mpr ⟨gw_X9, List.forall_mem_append.mpr ⟨gw_X6, fun _ h => absurd h List.not_mem_nil⟩⟩⟩⟩⟩
theorem gc_k_X9_place_k_X9_refuse_2 : GoodIn sw_k_X9_place sw_k_X9_refuse_2 := fun w h => ⟨List.mem_cons_of_mem _ (List.mem_append_right _ (List.mem_append_left _ h)), gd_k_X9_refuse_2 w h⟩
theorem iw_k_X9_place_X9 : ∀ w ∈ wsX90, w ∈ sw_k_X9_place := fun _ h => List.mem_cons_of_mem _ (List.mem_append_right _ (List.mem_append_right _ (List.mem_append_left _ h)))
theorem iw_k_X9_place_X6 : ∀ w ∈ wsX60, w ∈ sw_k_X9_place := fun _ h => List.mem_cons_of_mem _ (List.mem_append_right _ (List.mem_append_right _ (List.mem_append_right _ (List.mem_append_left _ h))))
set_option maxHeartbeats 4000000 in
set_option maxRecDepth 100000 in
theorem k_X9_place (l : Launch) (D : va_G) (cC cI cZ : ClassId) (h0 h1 h2 h3 h4 h5 h6 h7 h8 h9 h10 h11 h12 h13 h14 h15 h16 h17 : Nat) (sz : Nat) (p1 p2 : Int32) : Met l yX9_place sw_k_X9_place ({ frames := 4, cells := 0, slots := 0, locals := 200 }) (va_Pc [.ref h0, .int p1, .int p2] (kPre D cC cI cZ [(h0, .inr (9, [.ref h2, .ref h3, .ref h4, .int 0, .ref h5, .ref h6, .ref h7, .ref h8, .ref h9, .ref h10, .ref h11, .ref h1])), (h1, .inl (cI, 7, .inl (fun _ => 0))), (h2, .inr (6, [.int 0, .ref h12, .ref h13, .int 0, .int 5, .int 9, .int 0, .int 1, .int 0, .int 0, .ref h14, .ref h15, .int 0, .ref h16, .int 0, .ref h17, .int 0]))] sz)) (va_Qi (fun (r : Int32) (_ : Unit) => r = (-1)) (fun _ _ => True) (va_A [(h0, .inr (9, [.ref h2, .ref h3, .ref h4, .int 0, .ref h5, .ref h6, .ref h7, .ref h8, .ref h9, .ref h10, .ref h11, .ref h1])), (h1, .inl (cI, 7, .inl (fun _ => 0))), (h2, .inr (6, [.int 0, .ref h12, .ref h13, .int 0, .int 5, .int 9, .int 0, .int 1, .int 0, .int 0, .ref h14, .ref h15, .int 0, .ref h16, .int 0, .ref h17, .int 0]))] sz)) 0 0 (va_A [(h0, .inr (9, [.ref h2, .ref h3, .ref h4, .int 0, .ref h5, .ref h6, .ref h7, .ref h8, .ref h9, .ref h10, .ref h11, .ref h1])), (h1, .inl (cI, 7, .inl (fun _ => 0))), (h2, .inr (6, [.int 0, .ref h12, .ref h13, .int 0, .int 5, .int 9, .int 0, .int 1, .int 0, .int 0, .ref h14, .ref h15, .int 0, .ref h16, .int 0, .ref h17, .int 0]))] sz) := by
  refine Met.ofW (cc := cX9_place) (maxL := 4) (ret := (some .int)) (by decide) rfl ?_
  intro p e s m args below meth c s₁ B hml hv
  obtain ⟨rfl, hsz, hP, hK, hD0⟩ := hv
  have hx := B.exec
  have hb := B.bytes
  have hr := B.returns
  have hts := atoms_spec (ws := sw_k_X9_place) B.pre
  have hown : s.vm.findClass RX9 = some m.cls := findClass_of_methodNamed B.named
  have hlocks := B.notSynchronized
  subst hsz
  have hD := hD0.self (sz := s.heap.size)
  generalize hAe : va_A [(h0, .inr (9, [.ref h2, .ref h3, .ref h4, .int 0, .ref h5, .ref h6, .ref h7, .ref h8, .ref h9, .ref h10, .ref h11, .ref h1])), (h1, .inl (cI, 7, .inl (fun _ => 0))), (h2, .inr (6, [.int 0, .ref h12, .ref h13, .int 0, .int 5, .int 9, .int 0, .int 1, .int 0, .int 0, .ref h14, .ref h15, .int 0, .ref h16, .int 0, .ref h17, .int 0]))] s.heap.size = A at hD ⊢
  have hA : ∀ q : Nat, s.heap.size ≤ q → A q := fun q h => by rw [← hAe]; exact Or.inr h
  have hS : va_S A s.heap s.heap [] := va_S.rf
  have hl := lv_entry ([.ref h0, .int p1, .int p2]) (n := 4) (Nat.le_of_ble_eq_true rfl)
  rw [lg_entry_eq]
  generalize (lg_sl ([.ref h0, .int p1, .int p2]) ++ List.replicate (4 - (lg_sl ([.ref h0, .int p1, .int p2])).length) Slot.unset).toArray = ls at hl ⊢
  have hl : lv_has ls 4 [(0, .ref h0), (1, .int p1), (2, .int p2)] := hl
  refine lv_iload_n hx hb dX9_place_0 rfl (lv_at hl 1 rfl) ?_
  refine lv_if_lt (tgt := 15) hx hb dX9_place_1 (by decide) (fun c1 => ?_) (fun c1 => ?_)
  · refine lv_aload_n hx hb dX9_place_15 rfl (lv_at hl 0 rfl) ?_
    refine lv_iconst (v := (-1)) hx hb dX9_place_16 (by decide) ?_
    have hPc := hP.sub (ws' := [(h0, .inr (9, [.ref h2, .ref h3, .ref h4, .int 0, .ref h5, .ref h6, .ref h7, .ref h8, .ref h9, .ref h10, .ref h11, .ref h1])), (h1, .inl (cI, 7, .inl (fun _ => 0)))]) [0, 1] rfl
    have hDc := hD.sub (ws' := [(h0, .inr (9, [.ref h2, .ref h3, .ref h4, .int 0, .ref h5, .ref h6, .ref h7, .ref h8, .ref h9, .ref h10, .ref h11, .ref h1])), (h1, .inl (cI, 7, .inl (fun _ => 0)))]) [0, 1] (by decide) rfl
    have hFc := va_free (wc := [(h0, .inr (9, [.ref h2, .ref h3, .ref h4, .int 0, .ref h5, .ref h6, .ref h7, .ref h8, .ref h9, .ref h10, .ref h11, .ref h1])), (h1, .inl (cI, 7, .inl (fun _ => 0)))]) hD hS hA [0, 1] rfl
    refine va_calli (va_runV (As := [.int (-1)]) (rest := []) ⟨hx, hb, hml, hown, hts⟩ (k_X9_refuse_2 l D cC cI cZ h0 h1 h2 h3 h4 h5 h6 h7 h8 h9 h10 h11 s.heap.size ) (cwV (C := RX9) 1 hts (goodIn_app (goodIn_of _ (by decide +kernel)) gc_k_X9_place_k_X9_refuse_2) rfl rfl rfl (by decide +kernel) ⟨(Nat.le_of_ble_eq_true rfl), (Nat.le_of_ble_eq_true rfl)⟩) (kPreV hK hPc hDc (va_recv hK hPc (ci := 9) (q0 := 0) rfl rfl)) rfl rfl hl.1 rfl (lv_room (Nat.le_of_ble_eq_true rfl)) dX9_place_17 ⟨(Nat.le_of_ble_eq_true rfl), (Nat.le_of_ble_eq_true rfl)⟩) hS (fun q _ h => hFc q h) hFc (fun r2 u t H1 locs ht hvm hw hB hz1 hk1 hS => ?_)
    obtain ⟨hP1, hD1⟩ := hB
    rw [ht] at hP1
    obtain ⟨hP, hD⟩ := va_join (wr := [(h2, .inr (6, [.int 0, .ref h12, .ref h13, .int 0, .int 5, .int 9, .int 0, .int 1, .int 0, .int 0, .ref h14, .ref h15, .int 0, .ref h16, .int 0, .ref h17, .int 0]))]) (w1 := [(h0, .inr (9, [.ref h2, .ref h3, .ref h4, .int 0, .ref h5, .ref h6, .ref h7, .ref h8, .ref h9, .ref h10, .ref h11, .ref h1])), (h1, .inl (cI, 7, .inl (upd (fun _ => 0) (Int32.toNatClampNeg 1) 1)))]) hP hD [0, 1] [2] rfl rfl (by decide) (by decide) hk1 hFc hP1 hD1
    generalize H1 = H at hP hS ⊢
    have hP : va_P D vwCl [(h2, .inr (6, [.int 0, .ref h12, .ref h13, .int 0, .int 5, .int 9, .int 0, .int 1, .int 0, .int 0, .ref h14, .ref h15, .int 0, .ref h16, .int 0, .ref h17, .int 0])), (h0, .inr (9, [.ref h2, .ref h3, .ref h4, .int 0, .ref h5, .ref h6, .ref h7, .ref h8, .ref h9, .ref h10, .ref h11, .ref h1])), (h1, .inl (cI, 7, .inl (upd (fun _ => 0) (Int32.toNatClampNeg 1) 1)))] H := hP
    have hD : va_D A [(h2, .inr (6, [.int 0, .ref h12, .ref h13, .int 0, .int 5, .int 9, .int 0, .int 1, .int 0, .int 0, .ref h14, .ref h15, .int 0, .ref h16, .int 0, .ref h17, .int 0])), (h0, .inr (9, [.ref h2, .ref h3, .ref h4, .int 0, .ref h5, .ref h6, .ref h7, .ref h8, .ref h9, .ref h10, .ref h11, .ref h1])), (h1, .inl (cI, 7, .inl (upd (fun _ => 0) (Int32.toNatClampNeg 1) 1)))] := hD
    have hw : r2 = (-1) := hw
    subst hw
    refine W.widen (k := 0) (n := 0) (Nat.le_of_ble_eq_true rfl) (Nat.le_of_ble_eq_true rfl) ?_
    exact W.iret (v := (-1)) hx hb hr (fun t ht hW => ⟨⟨(-1), (), rfl, rfl, trivial⟩, hS.F ht⟩) hS.2.2 dX9_place_20
  · refine lv_iload_n hx hb dX9_place_4 rfl (lv_at hl 1 rfl) ?_
    refine lv_aload_n hx hb dX9_place_5 rfl (lv_at hl 0 rfl) ?_
    refine va_get (D := D) (ci := 9) (v := .ref h2) (C := RX9) (T := TX9) (N := 12) hx hb hts iw_k_X9_place_X9 hown hK hP 0 rfl rfl 0 (by decide) (hts (.fieldLink RX9 10 "TopTurned" "now" "LTopTurned$Told;") (by decide +kernel)) (fun _ h9 => h9) rfl dX9_place_6 ?_
    refine va_get (D := D) (ci := 6) (v := .int 0) (C := RX6) (T := TX6) (N := 17) hx hb hts iw_k_X9_place_X6 hown hK hP 2 rfl rfl 0 (by decide) (hts (.fieldLink RX9 115 "TopTurned$Told" "plates" "I") (by decide +kernel)) (fun _ h9 => h9) rfl dX9_place_9 ?_
    refine lv_icmp_lt (tgt := 21) hx hb dX9_place_12 (by decide) (fun c => absurd c c1) (fun _ => ?_)
    refine lv_aload_n hx hb dX9_place_15 rfl (lv_at hl 0 rfl) ?_
    refine lv_iconst (v := (-1)) hx hb dX9_place_16 (by decide) ?_
    have hPc := hP.sub (ws' := [(h0, .inr (9, [.ref h2, .ref h3, .ref h4, .int 0, .ref h5, .ref h6, .ref h7, .ref h8, .ref h9, .ref h10, .ref h11, .ref h1])), (h1, .inl (cI, 7, .inl (fun _ => 0)))]) [0, 1] rfl
    have hDc := hD.sub (ws' := [(h0, .inr (9, [.ref h2, .ref h3, .ref h4, .int 0, .ref h5, .ref h6, .ref h7, .ref h8, .ref h9, .ref h10, .ref h11, .ref h1])), (h1, .inl (cI, 7, .inl (fun _ => 0)))]) [0, 1] (by decide) rfl
    have hFc := va_free (wc := [(h0, .inr (9, [.ref h2, .ref h3, .ref h4, .int 0, .ref h5, .ref h6, .ref h7, .ref h8, .ref h9, .ref h10, .ref h11, .ref h1])), (h1, .inl (cI, 7, .inl (fun _ => 0)))]) hD hS hA [0, 1] rfl
    refine va_calli (va_runV (As := [.int (-1)]) (rest := []) ⟨hx, hb, hml, hown, hts⟩ (k_X9_refuse_2 l D cC cI cZ h0 h1 h2 h3 h4 h5 h6 h7 h8 h9 h10 h11 s.heap.size ) (cwV (C := RX9) 1 hts (goodIn_app (goodIn_of _ (by decide +kernel)) gc_k_X9_place_k_X9_refuse_2) rfl rfl rfl (by decide +kernel) ⟨(Nat.le_of_ble_eq_true rfl), (Nat.le_of_ble_eq_true rfl)⟩) (kPreV hK hPc hDc (va_recv hK hPc (ci := 9) (q0 := 0) rfl rfl)) rfl rfl hl.1 rfl (lv_room (Nat.le_of_ble_eq_true rfl)) dX9_place_17 ⟨(Nat.le_of_ble_eq_true rfl), (Nat.le_of_ble_eq_true rfl)⟩) hS (fun q _ h => hFc q h) hFc (fun r3 u t H1 locs ht hvm hw hB hz1 hk1 hS => ?_)
    obtain ⟨hP1, hD1⟩ := hB
    rw [ht] at hP1
    obtain ⟨hP, hD⟩ := va_join (wr := [(h2, .inr (6, [.int 0, .ref h12, .ref h13, .int 0, .int 5, .int 9, .int 0, .int 1, .int 0, .int 0, .ref h14, .ref h15, .int 0, .ref h16, .int 0, .ref h17, .int 0]))]) (w1 := [(h0, .inr (9, [.ref h2, .ref h3, .ref h4, .int 0, .ref h5, .ref h6, .ref h7, .ref h8, .ref h9, .ref h10, .ref h11, .ref h1])), (h1, .inl (cI, 7, .inl (upd (fun _ => 0) (Int32.toNatClampNeg 1) 1)))]) hP hD [0, 1] [2] rfl rfl (by decide) (by decide) hk1 hFc hP1 hD1
    generalize H1 = H at hP hS ⊢
    have hP : va_P D vwCl [(h2, .inr (6, [.int 0, .ref h12, .ref h13, .int 0, .int 5, .int 9, .int 0, .int 1, .int 0, .int 0, .ref h14, .ref h15, .int 0, .ref h16, .int 0, .ref h17, .int 0])), (h0, .inr (9, [.ref h2, .ref h3, .ref h4, .int 0, .ref h5, .ref h6, .ref h7, .ref h8, .ref h9, .ref h10, .ref h11, .ref h1])), (h1, .inl (cI, 7, .inl (upd (fun _ => 0) (Int32.toNatClampNeg 1) 1)))] H := hP
    have hD : va_D A [(h2, .inr (6, [.int 0, .ref h12, .ref h13, .int 0, .int 5, .int 9, .int 0, .int 1, .int 0, .int 0, .ref h14, .ref h15, .int 0, .ref h16, .int 0, .ref h17, .int 0])), (h0, .inr (9, [.ref h2, .ref h3, .ref h4, .int 0, .ref h5, .ref h6, .ref h7, .ref h8, .ref h9, .ref h10, .ref h11, .ref h1])), (h1, .inl (cI, 7, .inl (upd (fun _ => 0) (Int32.toNatClampNeg 1) 1)))] := hD
    have hw : r3 = (-1) := hw
    subst hw
    refine W.widen (k := 0) (n := 0) (Nat.le_of_ble_eq_true rfl) (Nat.le_of_ble_eq_true rfl) ?_
    exact W.iret (v := (-1)) hx hb hr (fun t ht hW => ⟨⟨(-1), (), rfl, rfl, trivial⟩, hS.F ht⟩) hS.2.2 dX9_place_20
